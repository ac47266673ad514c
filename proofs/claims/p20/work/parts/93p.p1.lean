def gt_E (te : Nat) (A : Nat → Prop) (U : State) : Prop := gx_E A U ∧ va_Z "java/util/ArrayList" "DEFAULTCAPACITY_EMPTY_ELEMENTDATA" "[Ljava/lang/Object;" (.ref te) A U U.heap
theorem gt_E.go {te : Nat} {A0 A : Nat → Prop} {s U : State} {H : Heap} {locs : List Loc} (hW : s.WarmedH U.vm) (hU : U.heap = H) (hS : va_S A0 s.heap H locs) (hA : ∀ q, A q → A0 q) (h : gt_E te A0 s) : gt_E te A U := ⟨h.1.go hW hU hS hA, by rw [hU]; exact ((h.2.kept hS.2.1).narrow hA).moved hW.alike⟩
theorem gt_E.same {te : Nat} {A : Nat → Prop} {s U : State} (hv : U.vm = s.vm) (hh : U.heap = s.heap) (h : gt_E te A s) : gt_E te A U := ⟨h.1.same hv hh, by rw [hh]; exact h.2.moved (by rw [hv]; exact Vm.Alike.refl _)⟩

