abbrev outC (oa : Nat) (ko : ClassId) (f : Nat → Int64) : Nat × va_E := (oa, .inl (ko, 1, .inr (.inl f)))
/-- two worlds that have no cell in common -/
def dj (X Y : va_W) : Prop := ∀ (i j : Nat) (p q : Nat × va_E), X[i]? = some p → Y[j]? = some q → p.1 ≠ q.1
theorem dj_keep {D : va_G} {cl : List vw_C} {X Y : va_W} {H H1 : Heap} (hP : va_P D cl Y H) (hdj : dj X Y) (hk : ∀ q : Nat, q < H.size → ¬ va_A X H.size q → H1[q]? = H[q]?) : va_P D cl Y H1 := hP.kept (fun k q hq => hk q.1 (hP k q hq).lt (fun h => h.elim (fun ⟨i, e, hi⟩ => hdj i k _ q hi hq rfl) (fun h => absurd (hP k q hq).lt (Nat.not_lt.mpr h))))
theorem dj_new {D : va_G} {cl : List vw_C} {X X' Y : va_W} {H : Heap} (hP : va_P D cl Y H) (hdj : dj X Y) (hD : va_D (va_A X H.size) X') : dj X' Y := fun i j p q hp hq e => by
  rcases hD.2 i p hp with ⟨k, e1, hk⟩ | h
  · exact hdj k j _ q hk hq e
  · have := (hP j q hq).lt
    omega
theorem dj_sym {X Y : va_W} (h : dj X Y) : dj Y X := fun i j p q hp hq e => h j i q p hq hp e.symm
theorem dj_map {X X' Y : va_W} (hm : X'.map Prod.fst = X.map Prod.fst) (h : dj X Y) : dj X' Y := fun i j p q hp hq e => by
  have h1 : (X'.map Prod.fst)[i]? = some p.1 := by rw [List.getElem?_map, hp]; rfl
  rw [hm, List.getElem?_map] at h1
  obtain ⟨p', h2, h3⟩ := Option.map_eq_some_iff.mp h1
  exact h i j p' q h2 hq (h3.trans e)
theorem dj_l {X Y Z : va_W} (h : dj (X ++ Y) Z) : dj X Z := fun i j p q hp hq e => h i j p q (ap_l hp) hq e
theorem ap_r {α : Type} {X Y : List α} {i : Nat} {p : α} (h : Y[i]? = some p) : (X ++ Y)[X.length + i]? = some p := by
  rw [List.getElem?_append_right (by omega), Nat.add_sub_cancel_left]; exact h
theorem dj_r {X Y Z : va_W} (h : dj (X ++ Y) Z) : dj Y Z := fun i j p q hp hq e => h _ j p q (ap_r hp) hq e
theorem dj_app {X Y Z : va_W} (h1 : dj X Z) (h2 : dj Y Z) : dj (X ++ Y) Z := fun i j p q hp hq e => by
  rcases Nat.lt_or_ge i X.length with w | w
  · rw [List.getElem?_append_left w] at hp; exact h1 i j p q hp hq e
  · rw [List.getElem?_append_right w] at hp; exact h2 _ j p q hp hq e
theorem vP_l {D : va_G} {cl : List vw_C} {X Y : va_W} {H : Heap} (h : va_P D cl (X ++ Y) H) : va_P D cl X H := fun k q hk => h k q (ap_l hk)
theorem vP_r {D : va_G} {cl : List vw_C} {X Y : va_W} {H : Heap} (h : va_P D cl (X ++ Y) H) : va_P D cl Y H := fun k q hk => h _ q (ap_r hk)
theorem vD_l {A : Nat → Prop} {X Y : va_W} (h : va_D A (X ++ Y)) : va_D A X := ⟨fun i j p q hp hq e => h.1 i j p q (ap_l hp) (ap_l hq) e, fun k q hk => h.2 k q (ap_l hk)⟩
theorem vD_r {A : Nat → Prop} {X Y : va_W} (h : va_D A (X ++ Y)) : va_D A Y := ⟨fun i j p q hp hq e => by have := h.1 _ _ p q (ap_r hp) (ap_r hq) e; omega, fun k q hk => h.2 _ q (ap_r hk)⟩
theorem vD_dj {A : Nat → Prop} {X Y : va_W} (h : va_D A (X ++ Y)) : dj X Y := fun i j p q hp hq e => by
  have h1 := h.1 _ _ p q (ap_l hp) (ap_r hq) e
  have h2 := (List.getElem?_eq_some_iff.mp hp).1
  omega
theorem cw_dj {c : Nat → Nat} {kc : Nat → ClassId} {st st' : Nat → Int32} {lg lg' : Nat → Int64} {ai ai' : Nat → Nat → Int32} {al al' : Nat → Nat → Int64} {R Y : va_W} (h : dj (cw_W c kc st lg ai al R) Y) : dj (cw_W c kc st' lg' ai' al' R) Y := dj_map (X := cw_W c kc st lg ai al R) rfl h
theorem out_D {A : Nat → Prop} {oa : Nat} {ko : ClassId} {f f' : Nat → Int64} (h : va_D A [outC oa ko f]) : va_D A [outC oa ko f'] := vD_map (ws := [outC oa ko f]) rfl h
theorem out_dj {X : va_W} {oa : Nat} {ko : ClassId} {f f' : Nat → Int64} (h : dj X [outC oa ko f]) : dj X [outC oa ko f'] := dj_sym (dj_map (X := [outC oa ko f]) rfl (dj_sym h))
/-- rows of pages have a class -/
theorem AO_K {D : va_G} {cl : List vw_C} {C : String} {U : State} (h : va_AO C U) (hK : va_K D cl [] U) : ∃ cA : ClassId, va_K D cl [(cA, .object C)] U := by
  obtain ⟨comp, c, k, h1, h2, h3, h4, h5⟩ := Cond.arrayOver_spec h
  refine ⟨c, hK.1, fun j q hj => ?_⟩
  have hz : j < 1 := (List.getElem?_eq_some_iff.mp hj).1
  rw [show j = 0 by omega] at hj
  cases hj
  exact ⟨fun N z => ⟨(fun k h => by cases h), k, h3, comp, h4⟩, k, comp, h3, h4, h1, h5⟩
section LST
variable {p : Program} {l : Launch} {e : Env} {R : Room} {s : State} {m : MethodId} {args : Array Value} {below : List Frame} {meth : Method} {c : Code} {H : Heap} {locs : List Loc} {cells slots : Nat} {Q : State → Prop}
variable {cc : ByteArray} {pc : Nat} {ls : Array Slot} {rest : List Value} {D : va_G} {cl : List vw_C} {A : Nat → Prop} {tys : List (ClassId × FieldType)} {H0 : Heap}
/-- a number is put into out -/
theorem lw_last {X : va_W} {oa : Nat} {ko : ClassId} {fo : Nat → Int64} {v : Int64} (hexec : p.tables.exec = Jvm.exec) (hb : c.code = cc) (hKo : va_K D cl [(ko, .long)] s) (hP : va_P D cl X H) (hO : va_P D cl [outC oa ko fo] H) (hD : va_D A X) (hDO : va_D A [outC oa ko fo]) (hdj : dj X [outC oa ko fo]) (hS : va_S A H0 H locs) (hdg : decode cc pc = .ok (.lastore, 1))
    (kk : ∀ (H1 : Heap) (locs1 : List Loc) (f1 : Nat → Int64), va_P D cl X H1 → va_P D cl [outC oa ko f1] H1 → va_S A H0 H1 locs1 → W p l e R s m args below meth c H1 locs1 cells slots Q (F0 m (pc + 1) ls rest)) : W p l e R s m args below meth c H locs cells slots Q (F0 m pc ls (.long v :: .int 0 :: .ref oa :: rest)) := by
  refine va_last (f := fo) (n := 1) hexec hb hKo (hP.app hO) (va_D.app hD hDO hdj) hS X.length 0 ap_0 rfl (by unfold vp_in; decide +kernel : vp_in (0 : Int32) 1) hdg (fun H1 locs1 hP1 _ hS1 => ?_)
  rw [ap_set] at hP1
  exact kk H1 locs1 _ (vP_l hP1) (vP_r hP1) hS1
end LST
/-- what holds of the class between calls -/
def cI (c : Nat → Nat) (kc : Nat → ClassId) (st : Nat → Int32) (ai : Nat → Nat → Int32) (R : va_W) (cap : Nat) (num : Nat → Int32) : Prop := (0 ≤ (st 3).toInt ∧ (st 3).toInt ≤ 8) ∧ (0 ≤ (st 5).toInt ∧ (st 5).toInt ≤ 400) ∧ (1 ≤ (st 6).toInt ∧ (st 6).toInt ≤ 65536) ∧ (0 ≤ (st 9).toInt ∧ (st 9).toInt ≤ 1) ∧ (0 ≤ (st 13).toInt ∧ (st 13).toInt ≤ 65536) ∧ (0 ≤ (st 15).toInt ∧ (st 15).toInt ≤ 1) ∧ (0 ≤ (st 17).toInt ∧ (st 17).toInt ≤ 128) ∧ (0 ≤ (st 25).toInt ∧ (st 25).toInt ≤ 128) ∧ (0 ≤ (st 26).toInt ∧ (st 26).toInt ≤ 128) ∧ (-1 ≤ (st 27).toInt ∧ (st 27).toInt ≤ 127) ∧ (0 ≤ (st 28).toInt ∧ (st 28).toInt ≤ 1) ∧ (0 ≤ (st 37).toInt ∧ (st 37).toInt ≤ 255) ∧ aR (ai 4) 400 (-128) 127 ∧ aR (ai 7) 8224 (-128) 127 ∧ aR (ai 23) 128 (0) 127 ∧ aR (ai 32) 16 (0) 400 ∧ aR (ai 33) 16 (0) 255 ∧ PI (kc 98) (kc 0) (c 99) (st 13) cap num none R ∧ NI cap (st 13)
/-- and behind a call -/
def hQ (D : va_G) (c : Nat → Nat) (kc : Nat → ClassId) (n : Int32) (cap sz tz oa : Nat) (ko : ClassId) (AA : Nat → Prop) (t : State) : Prop := ∃ (e9 : Nat) (st9 : Nat → Int32) (lg9 : Nat → Int64) (ai9 : Nat → Nat → Int32) (al9 : Nat → Nat → Int64) (R9 : va_W) (cap9 : Nat) (num9 : Nat → Int32) (f9 : Nat → Int64), cI (rU c 99 e9) kc st9 ai9 R9 cap9 num9 ∧ (cap9 = 0 → cap = 0 ∧ e9 = c 99) ∧ cap ≤ cap9 ∧ n.toInt ≤ (st9 13).toInt ∧ (st9 13).toInt ≤ n.toInt + 16 ∧ ((t.heap.size : Nat) : Int) ≤ ((sz : Nat) : Int) + 3 + 3 * ((st9 13).toInt - n.toInt) ∧ ((tot t.heap : Nat) : Int) ≤ ((tz : Nat) : Int) + 18 + 29 * ((st9 13).toInt - n.toInt) + 4 * (((cap9 : Nat) : Int) - ((cap : Nat) : Int)) ∧ va_P D vwCl (cw_W (rU c 99 e9) kc st9 lg9 ai9 al9 R9 ++ [outC oa ko f9]) t.heap ∧ va_D AA (cw_W (rU c 99 e9) kc st9 lg9 ai9 al9 R9 ++ [outC oa ko f9])
