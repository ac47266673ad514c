/-- the slots of a heap -/
def tot (H : Heap) : Nat := H.foldl (fun n c => n + c.slots.size) 0
theorem tot_of {s : State} (h : s.slotsTrue = true) : s.slotsUsed = tot s.heap := by
  unfold State.slotsTrue at h
  exact eq_of_beq h
section MKA
variable {p : Program} {l : Launch} {e : Env} {R : Room} {s : State} {m : MethodId} {args : Array Value} {below : List Frame} {meth : Method} {c : Code} {H : Heap} {locs : List Loc} {cells slots : Nat} {Q : State → Prop}
theorem st_true {T : State} (X : Stand p l e R s m args below meth c T locs cells slots) : s.slotsTrue = true := by
  have h := X.room
  simp only [State.hasRoom, Bool.and_eq_true] at h
  exact h.2
/-- what the counters say of the heap -/
theorem W_read {g : JFrame} (k : H.size ≤ s.heap.size + cells → tot H ≤ tot s.heap + slots → W p l e R s m args below meth c H locs cells slots Q g) : W p l e R s m args below meth c H locs cells slots Q g := by
  intro T hT X
  have h1 := X.heapSize
  have h2 := X.used
  rw [tot_of X.book, tot_of (st_true X), hT] at h2
  rw [hT] at h1
  exact k h1 h2 T hT X
theorem vxW_read {g : JFrame} {q : Addr} (k : H.size ≤ s.heap.size + cells → tot H ≤ tot s.heap + slots → vx_W p l e R s m args below meth c H locs cells slots Q g q) : vx_W p l e R s m args below meth c H locs cells slots Q g q := by
  intro T hT X
  have h1 := X.heapSize
  have h2 := X.used
  rw [tot_of X.book, tot_of (st_true X), hT] at h2
  rw [hT] at h1
  exact k h1 h2 T hT X
/-- the counters by what is known of the heap -/
theorem W_tight {g : JFrame} {k' m' : Nat} (h1 : H.size ≤ s.heap.size + k') (h2 : tot H ≤ tot s.heap + m') (kk : W p l e R s m args below meth c H locs k' m' Q g) : W p l e R s m args below meth c H locs cells slots Q g := by
  intro T hT X
  refine kk T hT ?_
  have hb := tot_of X.book
  have h0 := tot_of (st_true X)
  obtain ⟨a1, a2, a3, a4, a5, a6⟩ := X.same
  refine ⟨X.admits, X.cas, X.clock, X.frames, X.room, X.hears, X.method, X.code, X.here, X.tail, X.warmed, X.limits, X.bytes, a1, a2, ?_, a4, ?_, a6⟩
  · show T.heap.size ≤ s.heap.size + k'
    rw [hT]; exact h1
  · have a4' : T.slotsUsed = s.slotsUsed + ((T.heap.toList.drop s.heap.size).map (·.slots.size)).sum := a4
    show ((T.heap.toList.drop s.heap.size).map (·.slots.size)).sum ≤ m'
    rw [hb, h0, hT] at a4'
    rw [hT]
    omega
theorem vxW_tight {g : JFrame} {q : Addr} {k' m' : Nat} (h1 : H.size ≤ s.heap.size + k') (h2 : tot H ≤ tot s.heap + m') (kk : vx_W p l e R s m args below meth c H locs k' m' Q g q) : vx_W p l e R s m args below meth c H locs cells slots Q g q := by
  intro T hT X
  refine kk T hT ?_
  have hb := tot_of X.book
  have h0 := tot_of (st_true X)
  obtain ⟨a1, a2, a3, a4, a5, a6⟩ := X.same
  refine ⟨X.admits, X.cas, X.clock, X.frames, X.room, X.hears, X.method, X.code, X.here, X.tail, X.warmed, X.limits, X.bytes, a1, a2, ?_, a4, ?_, a6⟩
  · show T.heap.size ≤ s.heap.size + k'
    rw [hT]; exact h1
  · have a4' : T.slotsUsed = s.slotsUsed + ((T.heap.toList.drop s.heap.size).map (·.slots.size)).sum := a4
    show ((T.heap.toList.drop s.heap.size).map (·.slots.size)).sum ≤ m'
    rw [hb, h0, hT] at a4'
    rw [hT]
    omega
/-- a throw, with what it used -/
theorem vx_useX {Qc : Array Value → State → Outcome → State → Prop} {XC0 XC : String → State → State → Prop} {free : Addr → Prop} {g : JFrame} {k n mc ms : Nat} (hk : W p l e R s m args below meth c H locs cells slots (vx_MQ below Qc XC0 args s k n free) g)
    (hq : ∀ (E : String) (t : State), XC0 E s t → t.heap.size ≤ s.heap.size + k → tot t.heap ≤ tot s.heap + n → XC E s t) (hc : k ≤ mc) (hs : n ≤ ms) : W p l e R s m args below meth c H locs cells slots (vx_MQ below Qc XC args s mc ms free) g := by
  intro T hT X
  obtain ⟨t, a1, o, b1, b2, b3⟩ := hk T hT X
  refine ⟨t, a1, o, b1, b2, ?_⟩
  rcases b3 with ⟨q1, L, ⟨hv, hW, hsm⟩, hL⟩ | ⟨q, ho, E, ce, L, hx, hcell, hv, hcl, hW, hsm, hL⟩
  · exact Or.inl ⟨q1, L, ⟨hv, hW, hsm.mono hc hs⟩, hL⟩
  · refine Or.inr ⟨q, ho, E, ce, L, hq E t hx hsm.2.2.1 ?_, hcell, hv, hcl, hW, hsm.mono hc hs, hL⟩
    have h9 := tot_of (State.slotsTrue_of_sameButNew (st_true X) hsm)
    have h8 : t.slotsUsed = tot t.heap := h9
    have h7 : t.slotsUsed = s.slotsUsed + _ := hsm.2.2.2.1
    have h6 := hsm.2.2.2.2.1
    have h0 := tot_of (st_true X)
    rw [h8, h0] at h7
    rw [h7]
    exact Nat.add_le_add_left h6 _
end MKA
/-- what making a page needs of the machine -/
def gz_E (mi : Nat) (U : State) : Prop := va_Nw (.castable "BlockLog$Page" "java/lang/Object") U ∧ va_AO "java/lang/Object" U ∧ va_Mi "[Ljava/lang/Object;" mi U
theorem gz_E.warm {mi : Nat} {s U : State} (hW : s.WarmedH U.vm) (h : gz_E mi s) : gz_E mi U := ⟨va_Nw.warmC hW h.1, h.2.1.moved hW.alike, h.2.2.moved hW.alike⟩
theorem gz_E.same {mi : Nat} {s U : State} (hv : U.vm = s.vm) (h : gz_E mi s) : gz_E mi U := ⟨va_Nw.same rfl hv.symm h.1, h.2.1.moved (by rw [hv]; exact Vm.Alike.refl _), h.2.2.moved (by rw [hv]; exact Vm.Alike.refl _)⟩
/-- and of the list's first row, the empty one -/
def gy_E (cap e : Nat) (A : Nat → Prop) (U : State) : Prop := gx_E A U ∧ (∃ mi : Nat, gz_E mi U) ∧ va_Dc U ∧ (cap = 0 → va_Z "java/util/ArrayList" "DEFAULTCAPACITY_EMPTY_ELEMENTDATA" "[Ljava/lang/Object;" (.ref e) A U U.heap ∧ ∃ f : Nat → Value, va_T (.object "java/lang/Object") e 0 f A U U.heap)
theorem gy_E.go {A0 A : Nat → Prop} {s U : State} {H : Heap} {locs : List Loc} {cap cap' e e' : Nat} (hW : s.WarmedH U.vm) (hU : U.heap = H) (hS : va_S A0 s.heap H locs) (hA : ∀ q, A q → A0 q) (hc : cap' = 0 → cap = 0 ∧ e' = e) (h : gy_E cap e A0 s) : gy_E cap' e' A U := by
  obtain ⟨h1, ⟨mi, h2⟩, h5, h6⟩ := h
  refine ⟨h1.go hW hU hS hA, ⟨mi, h2.warm hW⟩, h5.moved hW.alike, fun z => ?_⟩
  obtain ⟨z1, z2⟩ := hc z
  obtain ⟨k1, f, k2⟩ := h6 z1
  rw [z2, hU]
  exact ⟨((k1.kept hS.2.1).narrow hA).moved hW.alike, f, ((k2.kept hS.2.1).narrow hA).moved hW.alike⟩
theorem gy_E.same {A : Nat → Prop} {s U : State} {cap e : Nat} (hv : U.vm = s.vm) (hh : U.heap = s.heap) (h : gy_E cap e A s) : gy_E cap e A U := by
  obtain ⟨h1, ⟨mi, h2⟩, h5, h6⟩ := h
  have a : s.vm.Alike U.vm := by rw [hv]; exact Vm.Alike.refl _
  refine ⟨h1.same hv hh, ⟨mi, h2.same hv⟩, h5.moved a, fun z => ?_⟩
  obtain ⟨k1, f, k2⟩ := h6 z
  rw [hh]
  exact ⟨k1.moved a, f, k2.moved a⟩
/-- of the pages' numbers and of the row's room -/
def NI (cap : Nat) (n : Int32) : Prop := (cap : Int) ≤ 10 + 2 * n.toInt ∧ (n.toInt = 0 → cap = 0) ∧ (cap = 0 ∨ 10 ≤ cap)
theorem rise_ge {num : Nat → Int32} {n : Int32} (hs : ∀ i j : Nat, i < j → (j : Int) < n.toInt → (num i).toInt < (num j).toInt) (h0 : ∀ i : Nat, (i : Int) < n.toInt → 0 ≤ (num i).toInt) : ∀ i : Nat, (i : Int) < n.toInt → (i : Int) ≤ (num i).toInt := fun i => by
  induction i with
  | zero => exact fun h => h0 0 h
  | succ i ih =>
    intro h
    have h1 := ih (by omega)
    have h2 := hs i (i + 1) (by omega) h
    omega
theorem rU_self {α : Type} {f : Nat → α} {k : Nat} : rU f k (f k) = f := funext fun j => by
  unfold rU
  by_cases h : j = k
  · rw [if_pos h, h]
  · rw [if_neg h]
theorem rU_rU {α : Type} {f : Nat → α} {k : Nat} {a b : α} : rU (rU f k a) k b = rU f k b := funext fun j => by
  unfold rU
  by_cases h : j = k
  · rw [if_pos h, if_pos h]
  · rw [if_neg h, if_neg h, if_neg h]
theorem iv_max (x y : Int32) : x.toInt ≤ (if x < y then y else x).toInt ∧ y.toInt ≤ (if x < y then y else x).toInt ∧ ((if x < y then y else x).toInt = x.toInt ∨ (if x < y then y else x).toInt = y.toInt) := by
  by_cases h : x < y
  · rw [if_pos h]
    have := iv_lt h
    omega
  · rw [if_neg h]
    have := iv_nlt h
    omega
theorem iv_min (x y : Int32) : (if y < x then y else x).toInt ≤ x.toInt ∧ (if y < x then y else x).toInt ≤ y.toInt ∧ ((if y < x then y else x).toInt = x.toInt ∨ (if y < x then y else x).toInt = y.toInt) := by
  by_cases h : y < x
  · rw [if_pos h]
    have := iv_lt h
    omega
  · rw [if_neg h]
    have := iv_nlt h
    omega
theorem cl_of {v : Int32} {n : Nat} (h : v.toInt = (n : Int)) : v.toNatClampNeg = n := by
  show v.toInt.toNat = n
  omega
theorem iv_shr1 (a : Int32) : (a >>> ((1 : Int32) &&& 31)).toInt = a.toInt / 2 := by
  show (BitVec.sshiftRight' a.toBitVec (((1 : Int32) &&& 31).toBitVec.smod 32)).toInt = _
  rw [BitVec.toInt_sshiftRight']
  have h3 : ((((1 : Int32) &&& 31).toBitVec.smod 32).toNat) = 1 := by decide
  rw [h3, Int.shiftRight_eq_div_pow]
  rfl
theorem cpy_0 {α : Type} {f g : Nat → α} {sp dp n : Int32} {N i : Nat} (h0 : sp.toInt = 0) (h1 : dp.toInt = 0) (hn : n.toInt = (N : Int)) (hi : i < N) : va_cpy f g sp.toNatClampNeg dp.toNatClampNeg n.toNatClampNeg i = f i := by
  rw [cl_of (v := sp) (n := 0) h0, cl_of (v := dp) (n := 0) h1, cl_of hn, va_cpy, if_pos (by omega)]
  congr 1
  omega
theorem cw_eP {D : va_G} {H : Heap} {c : Nat → Nat} {kc : Nat → ClassId} {st : Nat → Int32} {lg : Nat → Int64} {ai : Nat → Nat → Int32} {al : Nat → Nat → Int64} {R : va_W} {q : Nat} (h : va_P D vwCl ((cw_W c kc st lg ai al R).set 3 (c 103, .inr (2, [.int (st 12), .ref q, .int (st 13)]))) H) : va_P D vwCl (cw_W (rU c 99 q) kc st lg ai al R) H := h
theorem cw_eD {A : Nat → Prop} {c : Nat → Nat} {kc : Nat → ClassId} {st : Nat → Int32} {lg : Nat → Int64} {ai : Nat → Nat → Int32} {al : Nat → Nat → Int64} {R : va_W} {q : Nat} (h : va_D A ((cw_W c kc st lg ai al R).set 3 (c 103, .inr (2, [.int (st 12), .ref q, .int (st 13)])))) : va_D A (cw_W (rU c 99 q) kc st lg ai al R) := h
theorem ofn_i {n : Nat} {v : Int32} (e : v = Int32.ofNat n) (h : n < 2 ^ 31) : v.toInt = (n : Int) := by rw [e]; exact nI_toInt h
def thr (num : Nat → Int32) (n m : Int32) : Prop := ∃ i : Nat, (i : Int) < n.toInt ∧ (num i).toInt = m.toInt
theorem thr_of {num : Nat → Int32} {n i m x : Int32} (h0 : 0 ≤ i.toInt) (h1 : i.toInt < n.toInt) (hx : x = num i.toNatClampNeg) (e : x.toInt = m.toInt) : thr num n m := by
  have q : (i.toNatClampNeg : Int) = i.toInt := Int.toNat_of_nonneg h0
  exact ⟨i.toNatClampNeg, by omega, by rw [← hx]; exact e⟩
theorem thr_no {num : Nat → Int32} {n i m : Int32} (hs : ∀ i j : Nat, i < j → (j : Int) < n.toInt → (num i).toInt < (num j).toInt) (hlo : loI num i m) (hhi : hiI num i n m) (hne : i.toInt < n.toInt → (num i.toNatClampNeg).toInt ≠ m.toInt) (h0 : 0 ≤ i.toInt) : ¬ thr num n m := fun ⟨j, h1, h2⟩ => by
  have q : (i.toNatClampNeg : Int) = i.toInt := Int.toNat_of_nonneg h0
  generalize i.toNatClampNeg = k at q hne
  rcases Nat.lt_trichotomy j k with w | w | w
  · have := hlo j (by omega); omega
  · subst w; exact hne (by omega) h2
  · have a1 := hs k j w h1
    have a2 := hhi k (by omega) (by omega)
    omega
def ins (num : Nat → Int32) (i : Nat) (m : Int32) : Nat → Int32 := fun j => if j < i then num j else if j = i then m else num (j - 1)
theorem ins_lt {num : Nat → Int32} {i j : Nat} {m : Int32} (h : j < i) : ins num i m j = num j := if_pos h
theorem ins_eq {num : Nat → Int32} {i : Nat} {m : Int32} : ins num i m i = m := by rw [ins, if_neg (by omega), if_pos rfl]
theorem ins_gt {num : Nat → Int32} {i j : Nat} {m : Int32} (h : i < j) : ins num i m j = num (j - 1) := by rw [ins, if_neg (by omega), if_neg (by omega)]
theorem thr_ins {num : Nat → Int32} {n n' i m : Int32} (h0 : 0 ≤ i.toInt) (h1 : i.toInt ≤ n.toInt) (e : n'.toInt = n.toInt + 1) : thr (ins num i.toNatClampNeg m) n' m := by
  have q : (i.toNatClampNeg : Int) = i.toInt := Int.toNat_of_nonneg h0
  exact ⟨i.toNatClampNeg, by omega, by rw [ins_eq]⟩
theorem ins_rise {num : Nat → Int32} {n n' i m : Int32} (hs : ∀ i j : Nat, i < j → (j : Int) < n.toInt → (num i).toInt < (num j).toInt) (hlo : loI num i m) (hhi : hiI num i n m) (hne : i.toInt < n.toInt → (num i.toNatClampNeg).toInt ≠ m.toInt) (h0 : 0 ≤ i.toInt) (h1 : i.toInt ≤ n.toInt) (e : n'.toInt = n.toInt + 1) :
    ∀ a b : Nat, a < b → (b : Int) < n'.toInt → (ins num i.toNatClampNeg m a).toInt < (ins num i.toNatClampNeg m b).toInt := by
  have q : (i.toNatClampNeg : Int) = i.toInt := Int.toNat_of_nonneg h0
  generalize i.toNatClampNeg = k at q hne ⊢
  have hl : ∀ j : Nat, j < k → (num j).toInt < m.toInt := fun j hj => hlo j (by omega)
  have hg : ∀ j : Nat, k ≤ j → (j : Int) < n.toInt → m.toInt < (num j).toInt := fun j hj hn => by
    have a1 := hhi k (by omega) (by omega)
    have a2 := hne (by omega)
    rcases (show k < j ∨ k = j by omega) with w | w
    · have a3 := hs k j w hn
      omega
    · rw [← w]; omega
  intro a b hab hb
  rcases Nat.lt_trichotomy b k with hbk | hbk | hbk
  · rw [ins_lt (by omega), ins_lt hbk]; exact hs a b hab (by omega)
  · subst hbk; rw [ins_lt hab, ins_eq]; exact hl a hab
  · rw [ins_gt hbk]
    rcases Nat.lt_trichotomy a k with hak | hak | hak
    · rw [ins_lt hak]
      have a1 := hl a hak
      have a2 := hg (b - 1) (by omega) (by omega)
      omega
    · subst hak; rw [ins_eq]; exact hg (b - 1) (by omega) (by omega)
    · rw [ins_gt hak]; exact hs (a - 1) (b - 1) (by omega) (by omega)
theorem NI_ins {n n' : Int32} {cap' : Nat} (h0 : 0 ≤ n.toInt) (e : n'.toInt = n.toInt + 1) (hc : (cap' : Int) ≤ 12 + 2 * n.toInt) (hc2 : 10 ≤ cap') : NI cap' n' := ⟨by omega, by omega, Or.inr hc2⟩
theorem ins_rg {num : Nat → Int32} {n n' i m : Int32} (h : ∀ j : Nat, (j : Int) < n.toInt → 0 ≤ (num j).toInt ∧ (num j).toInt < 65536) (h0 : 0 ≤ i.toInt) (h1 : i.toInt ≤ n.toInt) (e : n'.toInt = n.toInt + 1) (hm0 : 0 ≤ m.toInt) (hm1 : m.toInt < 65536) : ∀ j : Nat, (j : Int) < n'.toInt → 0 ≤ (ins num i.toNatClampNeg m j).toInt ∧ (ins num i.toNatClampNeg m j).toInt < 65536 := fun j hj => by
  have q : (i.toNatClampNeg : Int) = i.toInt := Int.toNat_of_nonneg h0
  generalize i.toNatClampNeg = k at q ⊢
  rcases Nat.lt_trichotomy j k with w | w | w
  · rw [ins_lt w]; exact h j (by omega)
  · subst w; rw [ins_eq]; exact ⟨hm0, hm1⟩
  · rw [ins_gt w]; exact h (j - 1) (by omega)
/-- a row with one more in it -/
def insR (a a9 : Nat → Option Nat) (i n x : Nat) : Prop := (∀ j : Nat, j < i → a9 j = a j) ∧ a9 i = some x ∧ ∀ j : Nat, i < j → j ≤ n → a9 j = a (j - 1)
theorem insR_of {a : Nat → Option Nat} {i n x : Nat} (h : i ≤ n) : insR a (va_up (va_cpy a a i (i + 1) (n - i)) i (some x)) i n x := by
  refine ⟨fun j hj => ?_, ?_, fun j h1 h2 => ?_⟩
  · rw [va_up, if_neg (by omega), va_cpy, if_neg (by omega)]
  · rw [va_up, if_pos rfl]
  · rw [va_up, if_neg (by omega), va_cpy, if_pos (by omega)]
    congr 1
    omega
theorem insR_i {a a1 a9 : Nat → Option Nat} {i dp k n : Int32} {x : Nat} (hcp : va_cpy a a i.toNatClampNeg dp.toNatClampNeg k.toNatClampNeg = a1) (hup : va_up a1 i.toNatClampNeg (some x) = a9) (h0 : 0 ≤ i.toInt) (h1 : i.toInt ≤ n.toInt) (e1 : dp.toInt = i.toInt + 1) (e2 : k.toInt = n.toInt - i.toInt) : insR a a9 i.toNatClampNeg n.toInt.toNat x := by
  have q : (i.toNatClampNeg : Int) = i.toInt := Int.toNat_of_nonneg h0
  rw [cl_of (v := dp) (n := i.toNatClampNeg + 1) (by omega), cl_of (v := k) (n := n.toInt.toNat - i.toNatClampNeg) (by omega)] at hcp
  rw [← hup, ← hcp]
  exact insR_of (by omega)
theorem insR_to {a b a9 : Nat → Option Nat} {i n x : Nat} (h : insR a a9 i n x) (hi : i ≤ n) (e : ∀ j : Nat, j < n → a j = b j) : insR b a9 i n x := ⟨fun j hj => (h.1 j hj).trans (e j (by omega)), h.2.1, fun j h1 h2 => (h.2.2 j h1 h2).trans (e (j - 1) (by omega))⟩
section MKB
variable {c : Nat → Nat} {kc : Nat → ClassId} {st : Nat → Int32} {lg : Nat → Int64} {ai : Nat → Nat → Int32} {al : Nat → Nat → Int64} {R : va_W}
theorem cw_push {S : va_W} : cw_W c kc st lg ai al R ++ S = cw_W c kc st lg ai al (R ++ S) := by rw [cw_app, cw_app, List.append_assoc]
theorem cw_nd {A : Nat → Prop} (h : va_D A (cw_W c kc st lg ai al R)) : nd R := fun i j p q hp hq e => by
  have := h.1 (26 + i) (26 + j) p q (cw_at hp) (cw_at hq) e
  omega
theorem cw_llen : (cw_W c kc st lg ai al R).length = 26 + R.length := by rw [cw_app, List.length_append, cw_len]
end MKB
theorem ap_l {α : Type} {R S : List α} {j : Nat} {q : α} (h : R[j]? = some q) : (R ++ S)[j]? = some q := by
  rw [List.getElem?_append_left (List.getElem?_eq_some_iff.mp h).1]; exact h
theorem ap_0 {α : Type} {R : List α} {q : α} {S : List α} : (R ++ q :: S)[R.length]? = some q := by
  rw [List.getElem?_append_right (Nat.le_refl _), Nat.sub_self]; rfl
theorem ap_1 {α : Type} {R : List α} {q r : α} {S : List α} : (R ++ q :: r :: S)[R.length + 1]? = some r := by
  rw [List.getElem?_append_right (by omega), show R.length + 1 - R.length = 1 by omega]; rfl
theorem ap_set {α : Type} {R : List α} {q r : α} {S : List α} : (R ++ q :: S).set R.length r = R ++ r :: S := by
  rw [List.set_append_right _ _ (Nat.le_refl _), Nat.sub_self]; rfl
theorem ap_in {α : Type} {R S : List α} {q : α} (h : ∃ j : Nat, (R ++ S)[j]? = some q) : (∃ j : Nat, R[j]? = some q) ∨ q ∈ S := by
  obtain ⟨j, hj⟩ := h
  rcases List.mem_append.mp (List.mem_of_getElem? hj) with w | w
  · exact Or.inl (List.mem_iff_getElem?.mp w)
  · exact Or.inr w
/-- R' is R with one page more, and with another row of pages -/
theorem PI_step {kE kB : ClassId} {e x bx cap : Nat} {n kx : Int32} {num fx : Nat → Int32} {R R' : va_W} (H : PI kE kB e n cap num none R)
    (hO : ∀ (y b : Nat) (m' k : Int32), (∃ j : Nat, R'[j]? = some (pgO y m' b k)) → (∃ j : Nat, R[j]? = some (pgO y m' b k)) ∨ (y = x ∧ b = bx ∧ k = kx))
    (hO' : ∀ (y b : Nat) (m' k : Int32), (∃ j : Nat, R[j]? = some (pgO y m' b k)) → ∃ j : Nat, R'[j]? = some (pgO y m' b k))
    (hB : ∀ (b : Nat) (f : Nat → Int32), (∃ j : Nat, R'[j]? = some (pgB kB b f)) → (∃ j : Nat, R[j]? = some (pgB kB b f)) ∨ b = bx)
    (hB' : ∀ (kb : ClassId) (b : Nat) (f : Nat → Int32), (∃ j : Nat, R[j]? = some (pgB kb b f)) → ∃ j : Nat, R'[j]? = some (pgB kb b f))
    (hbx : ∃ j : Nat, R'[j]? = some (pgB kB bx fx)) (hk : kx.toInt ≠ 2) (hfr : ∀ (kb : ClassId) (f : Nat → Int32) (j : Nat), R[j]? ≠ some (pgB kb bx f)) :
    pgi R' ∧ pgK kB none R' ∧ ∀ y m', pgM kB R y m' → pgM kB R' y m' := by
  obtain ⟨h1, h2, h3, h4, h6, h7, h5, h8⟩ := H
  have no : ∀ (y b : Nat) (m' k : Int32), (∃ j : Nat, R[j]? = some (pgO y m' b k)) → b ≠ bx := fun y b m' k h w => by
    subst w
    obtain ⟨kb, f, j, q⟩ := h2.2 y b m' k h
    exact hfr kb f j q
  refine ⟨⟨fun y z b m1 m2 k1 k2 hy hz => ?_, fun y b m1 k1 hy => ?_⟩, fun y b m1 k1 f hc hne hl => ?_, fun y m' hy => ?_⟩
  · rcases hO y b m1 k1 hy with a1 | ⟨a1, a2, _⟩ <;> rcases hO z b m2 k2 hz with c1 | ⟨c1, c2, _⟩
    · exact h2.1 y z b m1 m2 k1 k2 a1 c1
    · exact absurd c2 (no y b m1 k1 a1)
    · exact absurd a2 (no z b m2 k2 c1)
    · rw [a1, c1]
  · rcases hO y b m1 k1 hy with a1 | ⟨_, a2, _⟩
    · obtain ⟨kb, f, q⟩ := h2.2 y b m1 k1 a1
      obtain ⟨j, q2⟩ := hB' kb b f q
      exact ⟨kb, f, j, q2⟩
    · obtain ⟨j, q⟩ := hbx
      rw [a2]
      exact ⟨kB, fx, j, q⟩
  · rcases hO y b m1 k1 hc.1 with a1 | ⟨_, _, a3⟩
    · rcases hB b f hc.2 with c1 | c1
      · exact h7 y b m1 k1 f ⟨a1, c1⟩ hne hl
      · exact absurd c1 (no y b m1 k1 a1)
    · rw [a3] at hl; exact absurd hl hk
  · obtain ⟨b, k, f, q1, q2⟩ := hy
    exact ⟨b, k, f, hO' _ _ _ _ q1, hB' _ _ _ q2⟩
/-- the row has room -/
theorem PI_fit {kE kB : ClassId} {e x bx cap j : Nat} {n m kx : Int32} {num fx : Nat → Int32} {R : va_W} {a a9 : Nat → Option Nat} (H : PI kE kB e n cap num none R) (hj : R[j]? = some (pgR kE e cap a)) (hk : kx.toInt ≠ 2) (hnd : nd ((R ++ [pgO x m bx kx, pgB kB bx fx]).set j (pgR kE e cap a9))) :
    pgi ((R ++ [pgO x m bx kx, pgB kB bx fx]).set j (pgR kE e cap a9)) ∧ pgK kB none ((R ++ [pgO x m bx kx, pgB kB bx fx]).set j (pgR kE e cap a9)) ∧ (∀ y m', pgM kB R y m' → pgM kB ((R ++ [pgO x m bx kx, pgB kB bx fx]).set j (pgR kE e cap a9)) y m') ∧ pgM kB ((R ++ [pgO x m bx kx, pgB kB bx fx]).set j (pgR kE e cap a9)) x m ∧ ((R ++ [pgO x m bx kx, pgB kB bx fx]).set j (pgR kE e cap a9))[j]? = some (pgR kE e cap a9) := by
  have hj1 : (R ++ [pgO x m bx kx, pgB kB bx fx])[j]? = some (pgR kE e cap a) := ap_l hj
  have hlt : j < R.length := (List.getElem?_eq_some_iff.mp hj).1
  have gO : ∀ q : Nat × va_E, (∀ b, q ≠ pgR kE e cap b) → (∃ i : Nat, (R ++ [pgO x m bx kx, pgB kB bx fx])[i]? = some q) → ∃ i : Nat, ((R ++ [pgO x m bx kx, pgB kB bx fx]).set j (pgR kE e cap a9))[i]? = some q := fun q hq ⟨i, hi⟩ => by
    have w : i ≠ j := fun w => by rw [w, hj1] at hi; exact hq _ (Option.some.inj hi).symm
    exact ⟨i, by rw [List.getElem?_set_ne (Ne.symm w)]; exact hi⟩
  have sO : ∀ q : Nat × va_E, (∀ b, q ≠ pgR kE e cap b) → (∃ i : Nat, ((R ++ [pgO x m bx kx, pgB kB bx fx]).set j (pgR kE e cap a9))[i]? = some q) → (∃ i : Nat, R[i]? = some q) ∨ q ∈ [pgO x m bx kx, pgB kB bx fx] := fun q hq ⟨i, hi⟩ => by
    rcases set_of hj1 hi with ⟨_, w⟩ | ⟨_, w⟩
    · exact absurd w (hq _)
    · exact ap_in ⟨i, w⟩
  have nO : ∀ (y b : Nat) (m' k : Int32) (b' : Nat → Option Nat), pgO y m' b k ≠ pgR kE e cap b' := fun y b m' k b' h => by cases h
  have nB : ∀ (kb : ClassId) (b : Nat) (f : Nat → Int32) (b' : Nat → Option Nat), pgB kb b f ≠ pgR kE e cap b' := fun kb b f b' h => by cases h
  have eX : ((R ++ [pgO x m bx kx, pgB kB bx fx]).set j (pgR kE e cap a9))[R.length]? = some (pgO x m bx kx) := by rw [List.getElem?_set_ne (by omega)]; exact ap_0
  have eB : ((R ++ [pgO x m bx kx, pgB kB bx fx]).set j (pgR kE e cap a9))[R.length + 1]? = some (pgB kB bx fx) := by rw [List.getElem?_set_ne (by omega)]; exact ap_1
  obtain ⟨r1, r2, r3⟩ := PI_step (x := x) (bx := bx) (kx := kx) (fx := fx) H (R' := (R ++ [pgO x m bx kx, pgB kB bx fx]).set j (pgR kE e cap a9))
    (fun y b m' k h => by
      rcases sO _ (nO _ _ _ _) h with w | w
      · exact Or.inl w
      · right
        simp only [List.mem_cons, List.not_mem_nil, or_false, Prod.mk.injEq, Sum.inr.injEq, List.cons.injEq, Value.ref.injEq, Value.int.injEq, true_and, and_true, reduceCtorEq, and_false] at w
        exact ⟨w.1, w.2.2.1, w.2.2.2⟩)
    (fun y b m' k ⟨i, hi⟩ => gO _ (nO _ _ _ _) ⟨i, ap_l hi⟩)
    (fun b f h => by
      rcases sO _ (nB _ _ _) h with w | w
      · exact Or.inl w
      · right
        simp only [List.mem_cons, List.not_mem_nil, or_false, Prod.mk.injEq, Sum.inl.injEq, true_and, reduceCtorEq, and_false, false_or] at w
        exact w.1)
    (fun kb b f ⟨i, hi⟩ => gO _ (nB _ _ _) ⟨i, ap_l hi⟩) ⟨_, eB⟩ hk (fun kb f i hi => by
      obtain ⟨i2, h2⟩ := gO _ (nB _ _ _) ⟨i, ap_l hi⟩
      have w := hnd _ _ _ _ h2 eB rfl
      rw [w, eB] at h2
      have hi2 : i < R.length := (List.getElem?_eq_some_iff.mp hi).1
      have w2 : i ≠ j := fun w => by rw [w, hj] at hi; cases hi
      have h3 : ((R ++ [pgO x m bx kx, pgB kB bx fx]).set j (pgR kE e cap a9))[i]? = some (pgB kb bx f) := by rw [List.getElem?_set_ne (Ne.symm w2)]; exact ap_l hi
      have w3 := hnd _ _ _ _ h3 eB rfl
      omega)
  exact ⟨r1, r2, r3, ⟨bx, kx, fx, ⟨_, eX⟩, _, eB⟩, set_eq hj1⟩
/-- a new row -/
theorem PI_grow {kE kB : ClassId} {e q x bx cap N : Nat} {n m kx : Int32} {num fx : Nat → Int32} {R : va_W} {a9 : Nat → Option Nat} (H : PI kE kB e n cap num none R) (hk : kx.toInt ≠ 2) (hnd : nd (R ++ [pgO x m bx kx, pgB kB bx fx, pgR kE q N a9])) :
    pgi (R ++ [pgO x m bx kx, pgB kB bx fx, pgR kE q N a9]) ∧ pgK kB none (R ++ [pgO x m bx kx, pgB kB bx fx, pgR kE q N a9]) ∧ (∀ y m', pgM kB R y m' → pgM kB (R ++ [pgO x m bx kx, pgB kB bx fx, pgR kE q N a9]) y m') ∧ pgM kB (R ++ [pgO x m bx kx, pgB kB bx fx, pgR kE q N a9]) x m ∧ ∃ j : Nat, (R ++ [pgO x m bx kx, pgB kB bx fx, pgR kE q N a9])[j]? = some (pgR kE q N a9) := by
  have eX : (R ++ [pgO x m bx kx, pgB kB bx fx, pgR kE q N a9])[R.length]? = some (pgO x m bx kx) := ap_0
  have eB : (R ++ [pgO x m bx kx, pgB kB bx fx, pgR kE q N a9])[R.length + 1]? = some (pgB kB bx fx) := ap_1
  have eR : (R ++ [pgO x m bx kx, pgB kB bx fx, pgR kE q N a9])[R.length + 2]? = some (pgR kE q N a9) := by
    rw [List.getElem?_append_right (by omega), show R.length + 2 - R.length = 2 by omega]; rfl
  obtain ⟨r1, r2, r3⟩ := PI_step (x := x) (bx := bx) (kx := kx) (fx := fx) H (R' := R ++ [pgO x m bx kx, pgB kB bx fx, pgR kE q N a9])
    (fun y b m' k h => by
      rcases ap_in h with w | w
      · exact Or.inl w
      · right
        simp only [List.mem_cons, List.not_mem_nil, or_false, Prod.mk.injEq, Sum.inr.injEq, List.cons.injEq, Value.ref.injEq, Value.int.injEq, true_and, and_true, reduceCtorEq, and_false] at w
        exact ⟨w.1, w.2.2.1, w.2.2.2⟩)
    (fun y b m' k ⟨i, hi⟩ => ⟨i, ap_l hi⟩)
    (fun b f h => by
      rcases ap_in h with w | w
      · exact Or.inl w
      · right
        simp only [List.mem_cons, List.not_mem_nil, or_false, Prod.mk.injEq, Sum.inl.injEq, true_and, reduceCtorEq, and_false, false_or] at w
        exact w.1)
    (fun kb b f ⟨i, hi⟩ => ⟨i, ap_l hi⟩) ⟨_, eB⟩ hk (fun kb f i hi => by
      have hi2 : i < R.length := (List.getElem?_eq_some_iff.mp hi).1
      have w3 := hnd _ _ _ _ (ap_l hi) eB rfl
      omega)
  exact ⟨r1, r2, r3, ⟨bx, kx, fx, ⟨_, eX⟩, _, eB⟩, _, eR⟩
/-- pages, with one more -/
theorem PI_new {kE kB : ClassId} {e' x cap' : Nat} {n n' i m : Int32} {num : Nat → Int32} {R' : va_W} {a a9 : Nat → Option Nat} (hnd : nd R') (hi : pgi R') (hk : pgK kB none R') (hrow : ∃ j : Nat, R'[j]? = some (pgR kE e' cap' a9)) (hx : pgM kB R' x m) (hins : insR a a9 i.toNatClampNeg n.toInt.toNat x)
    (hel : ∀ j : Nat, (j : Int) < n.toInt → ∃ y, a j = some y ∧ pgM kB R' y (num j)) (h0 : 0 ≤ i.toInt) (h1 : i.toInt ≤ n.toInt) (e : n'.toInt = n.toInt + 1) (hc : n'.toInt ≤ (cap' : Int)) (hr : ∀ a b : Nat, a < b → (b : Int) < n'.toInt → (ins num i.toNatClampNeg m a).toInt < (ins num i.toNatClampNeg m b).toInt) (hg : ∀ j : Nat, (j : Int) < n'.toInt → 0 ≤ (ins num i.toNatClampNeg m j).toInt ∧ (ins num i.toNatClampNeg m j).toInt < 65536) :
    PI kE kB e' n' cap' (ins num i.toNatClampNeg m) none R' := by
  have q : (i.toNatClampNeg : Int) = i.toInt := Int.toNat_of_nonneg h0
  generalize i.toNatClampNeg = k at q hins hr hg ⊢
  refine ⟨hnd, hi, by omega, hc, hr, hk, fun _ => ⟨a9, hrow, fun j hj => ?_⟩, hg⟩
  obtain ⟨g1, g2, g3⟩ := hins
  rcases Nat.lt_trichotomy j k with w | w | w
  · rw [ins_lt w, g1 j w]; exact hel j (by omega)
  · subst w; rw [ins_eq, g2]; exact ⟨x, rfl, hx⟩
  · rw [ins_gt w, g3 j w (by omega)]; exact hel (j - 1) (by omega)
