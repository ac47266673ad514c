/-- what the walks need of the machine beside good words: links between nest mates, the texts of exceptions, what can be cast to what, Throwable's two statics -/
def gx_nest : List (String × Nat × String × String × String × String) := [("BlockLog", 118, "BlockLog$Disk", "pageCount", "I", "BlockLog"), ("BlockLog", 151, "BlockLog$Rows", "count", "I", "BlockLog"), ("BlockLog", 170, "BlockLog$Story", "lastVote", "I", "BlockLog"), ("BlockLog", 207, "BlockLog$Story", "baseHeight", "I", "BlockLog"), ("BlockLog", 218, "BlockLog$Story", "slots", "[J", "BlockLog"), ("BlockLog", 225, "BlockLog$Page", "number", "I", "BlockLog"), ("BlockLog", 236, "BlockLog$Page", "bytes", "[B", "BlockLog"), ("BlockLog", 252, "BlockLog$Rows", "area", "I", "BlockLog"), ("BlockLog", 279, "BlockLog$Snapshot", "height", "I", "BlockLog"), ("BlockLog", 284, "BlockLog$Disk", "actsLeft", "I", "BlockLog"), ("BlockLog", 287, "BlockLog$Disk", "powered", "Z", "BlockLog"), ("BlockLog", 312, "BlockLog$Rows", "bad", "I", "BlockLog"), ("BlockLog", 345, "BlockLog$Disk", "actsDone", "I", "BlockLog"), ("BlockLog", 348, "BlockLog$Rows", "generation", "I", "BlockLog"), ("BlockLog", 407, "BlockLog$Disk", "touched", "Ljava/util/ArrayList;", "BlockLog"), ("BlockLog", 440, "BlockLog$Snapshot", "count", "I", "BlockLog"), ("BlockLog", 441, "BlockLog$Snapshot", "starts", "[I", "BlockLog"), ("BlockLog", 444, "BlockLog$Snapshot", "sizes", "[I", "BlockLog"), ("BlockLog", 450, "BlockLog$Snapshot", "digests", "[J", "BlockLog"), ("BlockLog", 457, "BlockLog$Snapshot", "block", "J", "BlockLog"), ("BlockLog", 461, "BlockLog$Snapshot", "slots", "[I", "BlockLog"), ("BlockLog", 83, "BlockLog$Tape", "count", "I", "BlockLog"), ("BlockLog", 96, "BlockLog$Tape", "bytes", "[B", "BlockLog"), ("BlockLog$Disk", 43, "BlockLog$Page", "bytes", "[B", "BlockLog"), ("BlockLog$Disk", 55, "BlockLog$Page", "known", "I", "BlockLog"), ("BlockLog$Disk", 76, "BlockLog$Page", "number", "I", "BlockLog"), ("BlockLog$Pruning", 101, "BlockLog$Rows", "generation", "I", "BlockLog"), ("BlockLog$Pruning", 107, "BlockLog$Rows", "image", "[B", "BlockLog"), ("BlockLog$Pruning", 122, "BlockLog$Story", "slots", "[J", "BlockLog"), ("BlockLog$Pruning", 33, "BlockLog$Rows", "count", "I", "BlockLog"), ("BlockLog$Pruning", 39, "BlockLog$Story", "lastVote", "I", "BlockLog"), ("BlockLog$Pruning", 42, "BlockLog$Story", "fits", "[Z", "BlockLog"), ("BlockLog$Pruning", 72, "BlockLog$Story", "isBlock", "[Z", "BlockLog"), ("BlockLog$Pruning", 85, "BlockLog$Rows", "area", "I", "BlockLog"), ("BlockLog$Rows", 125, "BlockLog$Tape", "count", "I", "BlockLog"), ("BlockLog$Rows", 128, "BlockLog$Tape", "bytes", "[B", "BlockLog"), ("BlockLog$Rows", 36, "BlockLog$Disk", "low", "[B", "BlockLog"), ("BlockLog$Snapshot", 36, "BlockLog$Tape", "count", "I", "BlockLog"), ("BlockLog$Snapshot", 39, "BlockLog$Tape", "bytes", "[B", "BlockLog"), ("BlockLog$Story", 62, "BlockLog$Rows", "count", "I", "BlockLog")]
def gx_strs : List (String × Nat × String) := [("BlockLog", 102, "the tape has not 1 .. 16 bytes"), ("BlockLog", 116, "no such slot"), ("BlockLog", 121, "no such page"), ("BlockLog", 164, "round is not 0 .. 1000000"), ("BlockLog", 188, "signers is not 0 .. 15"), ("BlockLog", 202, "what is not 0 or 1"), ("BlockLog", 213, "the version is not kept"), ("BlockLog", 231, "i is not 0 .. 15"), ("BlockLog", 241, "the height is not above THE BASE'S, or above the last version's"), ("BlockLog", 261, "the version is not kept, or 0"), ("BlockLog", 282, "acts is neither NONE nor 0 .. 5000"), ("BlockLog", 302, "the power is on"), ("BlockLog", 305, "mask is not 0 .. 255"), ("BlockLog", 324, "it is not asked for"), ("BlockLog", 343, "what is not 0 .. 8"), ("BlockLog", 351, "the power is off"), ("BlockLog", 356, "height is not 1 .. 1000000"), ("BlockLog", 358, "no such row"), ("BlockLog", 360, "no such place"), ("BlockLog", 78, "n is not 1 .. 8"), ("BlockLog", 86, "the tape has no place for so many"), ("BlockLog", 93, "no such byte of the tape")]
def gx_exs : List String := ["java/lang/IllegalArgumentException", "java/lang/IllegalStateException", "java/lang/IndexOutOfBoundsException"]
def gx_N (U : State) : Prop := ∀ q ∈ gx_nest, va_Nw (.fieldLinkNest q.1 q.2.1 q.2.2.1 q.2.2.2.1 q.2.2.2.2.1 q.2.2.2.2.2) U
def gx_S (U : State) : Prop := ∀ q ∈ gx_strs, ∃ sa : Nat, vk_R q.1 q.2.1 q.2.2 sa U
def gx_cst : List String := gx_exs ++ ["BlockLog$Page"]
def gx_C (U : State) : Prop := ∀ x ∈ gx_cst, va_Nw (.castable x x) U
def gx_dcs : List String := ["java/lang/RuntimeException", "java/lang/Exception", "java/lang/Throwable"]
def gx_D (U : State) : Prop := ∀ x ∈ gx_dcs, va_Nw (.declares (Bundle.initS x)) U
theorem gx_warmD {y : MethodName} {s U : State} (hW : s.WarmedH U.vm) (hZ : va_Nw (.declares y) s) : va_Nw (.declares y) U := va_tabs rfl (rfl : (s.setVm U.vm).vm = U.vm) (by rw [Cond.declares_setVm hW.alike]; exact hZ)
def gx_X (U : State) : Prop := ∀ x ∈ gx_exs, ∀ y ∈ gx_exs, x ≠ y → va_Nc x y U
def gx_T (A : Nat → Prop) (U : State) : Prop := vx_Zq Bundle.tN "UNASSIGNED_STACK" Bundle.steD A U U.heap ∧ vx_Zq Bundle.tN "SUPPRESSED_SENTINEL" Bundle.listD A U U.heap ∧ ∃ t : Nat, va_Z "java/util/ArrayList" "DEFAULTCAPACITY_EMPTY_ELEMENTDATA" "[Ljava/lang/Object;" (.ref t) A U U.heap
def gx_mns : List (String × Nat × MethodName × String) := [("BlockLog$Story", 103, ⟨"BlockLog", "isHeight", "(I)Z"⟩, "BlockLog"), ("BlockLog$Snapshot", 53, ⟨"BlockLog", "isHeight", "(I)Z"⟩, "BlockLog")]
def gx_M (U : State) : Prop := ∀ q ∈ gx_mns, va_Nw (.methodLinkNest q.1 q.2.1 q.2.2.1 q.2.2.2) U
def gx_lks : List (Nat × String) := [(13, "java/lang/IllegalArgumentException"), (19, "java/lang/IndexOutOfBoundsException"), (25, "java/lang/IllegalStateException")]
def gx_L (U : State) : Prop := ∀ q ∈ gx_lks, va_Nw (.classLink "BlockLogLaw" q.1 q.2) U
theorem gx_warmL {i : Nat} {x : String} {s U : State} (hW : s.WarmedH U.vm) (hZ : va_Nw (.classLink "BlockLogLaw" i x) s) : va_Nw (.classLink "BlockLogLaw" i x) U := va_Nw.of rfl (A := #[]) (word_at (args := #[]) hW (Or.inl rfl) (va_Nw.use rfl hZ))
def gx_W (U : State) : Prop := gx_N U ∧ gx_S U ∧ gx_C U ∧ gx_X U ∧ gx_D U ∧ gx_M U ∧ gx_L U
def gx_E (A : Nat → Prop) (U : State) : Prop := gx_W U ∧ gx_T A U
theorem gx_W.warm {s U : State} (hW : s.WarmedH U.vm) (h : gx_W s) : gx_W U := by
  obtain ⟨h1, h2, h3, h4, h5, h6, h7⟩ := h
  refine ⟨fun q hq => va_Nw.warmF hW (h1 q hq), fun q hq => ?_, fun x hx => va_Nw.warmC hW (h3 x hx), fun x hx y hy hn => va_Nc.moved hW.alike (h4 x hx y hy hn), fun x hx => gx_warmD hW (h5 x hx), fun q hq => va_Nw.warmM hW (h6 q hq), fun q hq => gx_warmL hW (h7 q hq)⟩
  obtain ⟨sa, hs⟩ := h2 q hq
  exact ⟨sa, vk_R.warm hW hs⟩
theorem gx_W.same {s U : State} (hv : U.vm = s.vm) (h : gx_W s) : gx_W U := by
  obtain ⟨h1, h2, h3, h4, h5, h6, h7⟩ := h
  refine ⟨fun q hq => va_Nw.same rfl hv.symm (h1 q hq), fun q hq => ?_, fun x hx => va_Nw.same rfl hv.symm (h3 x hx), fun x hx y hy hn => va_Nc.moved (by rw [hv]; exact Vm.Alike.refl _) (h4 x hx y hy hn), fun x hx => va_Nw.same rfl hv.symm (h5 x hx), fun q hq => va_Nw.same rfl hv.symm (h6 q hq), fun q hq => va_Nw.same rfl hv.symm (h7 q hq)⟩
  obtain ⟨sa, hs⟩ := h2 q hq
  exact ⟨sa, vk_R.same hv hs⟩
theorem gx_T.go {A0 A : Nat → Prop} {s U : State} {H : Heap} {locs : List Loc} (hvm : s.vm.Alike U.vm) (hU : U.heap = H) (hS : va_S A0 s.heap H locs) (hA : ∀ q, A q → A0 q) (h : gx_T A0 s) : gx_T A U := by
  unfold gx_T
  rw [hU]
  obtain ⟨h1, h2, t, h3⟩ := h
  exact ⟨((h1.kept hS.2.1).narrow hA).moved hvm, ((h2.kept hS.2.1).narrow hA).moved hvm, t, ((h3.kept hS.2.1).narrow hA).moved hvm⟩
theorem gx_T.same {A : Nat → Prop} {s U : State} (hv : U.vm = s.vm) (hh : U.heap = s.heap) (h : gx_T A s) : gx_T A U := by
  unfold gx_T
  rw [hh]
  obtain ⟨h1, h2, t, h3⟩ := h
  exact ⟨h1.moved (by rw [hv]; exact Vm.Alike.refl _), h2.moved (by rw [hv]; exact Vm.Alike.refl _), t, h3.moved (by rw [hv]; exact Vm.Alike.refl _)⟩
theorem gx_E.go {A0 A : Nat → Prop} {s U : State} {H : Heap} {locs : List Loc} (hW : s.WarmedH U.vm) (hU : U.heap = H) (hS : va_S A0 s.heap H locs) (hA : ∀ q, A q → A0 q) (h : gx_E A0 s) : gx_E A U := ⟨h.1.warm hW, h.2.go hW.alike hU hS hA⟩
theorem gx_E.same {A : Nat → Prop} {s U : State} (hv : U.vm = s.vm) (hh : U.heap = s.heap) (h : gx_E A s) : gx_E A U := ⟨h.1.same hv, h.2.same hv hh⟩
/-- the words of 'throw new E(text)' that aren't good ones -/
def gx_bad (E : String) : List Cond := [.castable E E, .declares (Bundle.initS "java/lang/RuntimeException"), .declares (Bundle.initS "java/lang/Exception"), .declares (Bundle.initS "java/lang/Throwable")]
theorem gx_W.bad {args : Array Value} {s : State} (h : gx_W s) {E : String} (hE : E ∈ gx_exs) : ∀ w ∈ gx_bad E, w.before args s = true :=
  vx_c (va_Nw.use rfl (h.2.2.1 E (List.mem_append_left _ hE))) (vx_c (va_Nw.use rfl (h.2.2.2.2.1 _ (by decide +kernel))) (vx_c (va_Nw.use rfl (h.2.2.2.2.1 _ (by decide +kernel))) (vx_c (va_Nw.use rfl (h.2.2.2.2.1 _ (by decide +kernel))) vx_n)))
theorem lq_le1 {a b x : Int32} (h : a = b + 1) (q : b < x) : a ≤ x := by
  subst h
  rw [Int32.lt_iff_toInt_lt] at q
  rw [Int32.le_iff_toInt_le, Int32.toInt_add]
  have h1 : (1 : Int32).toInt = 1 := by decide
  rw [h1]
  have hx := x.toInt_lt
  have hb := b.le_toInt
  have hd := Int.bmod_eq_of_le (n := b.toInt + 1) (m := 2 ^ 32) (by omega) (by omega)
  rw [hd]
  omega
theorem lq_le2 {c d x : Int32} (h : c = d + 1) (q : x < c) : x ≤ d := by
  rcases Decidable.em (x ≤ d) with g | g
  · exact g
  · exact absurd q (Int32.not_lt.mpr (lq_le1 h (Int32.not_le.mp g)))
theorem lq_in {i L : Int32} {N : Nat} (h0 : 0 ≤ i) (h1 : i < L) (hL : L.toInt = (N : Int)) : vp_in i N := by
  refine vp_in_iff.mpr ⟨?_, ?_⟩
  · rw [Int32.le_iff_toInt_le] at h0; exact h0
  · rw [Int32.lt_iff_toInt_lt] at h1; omega
theorem lq_K {D : va_G} {cl : List vw_C} {t1 t2 : List (ClassId × FieldType)} {U : State} (h1 : va_K D cl t1 U) (h2 : va_K D cl t2 U) : va_K D cl (t1 ++ t2) U := h1.app h2
