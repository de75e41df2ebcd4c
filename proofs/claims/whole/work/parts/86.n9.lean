/-! what else of the heap is known (texts, the table ABOVE) moves as it should *program* -/
theorem va_Z_nar {C n d : String} {v : Value} {A B : Nat → Prop} {U : State} {H : Heap} (h : va_Z C n d v A U H) (hAB : ∀ q, q < H.size → B q → A q) : va_Z C n d v B U H := by
  obtain ⟨cf, kf, fi, f, a, cell, h1, h2, h3, h4, h5, h6, h7, h8⟩ := h
  exact ⟨cf, kf, fi, f, a, cell, h1, h2, h3, h4, h5, h6, h7, fun z => h8 (hAB a (Array.getElem?_eq_some_iff.mp h5).1 z)⟩
theorem va_T_nar {ty : FieldType} {t N : Nat} {f : Nat → Value} {A B : Nat → Prop} {U : State} {H : Heap} (h : va_T ty t N f A U H) (hAB : ∀ q, q < H.size → B q → A q) : va_T ty t N f B U H := by
  obtain ⟨cell, h1, h2, h3, h4, h5, h6, h7⟩ := h
  exact ⟨cell, h1, h2, h3, h4, h5, h6, fun z => h7 (hAB t (Array.getElem?_eq_some_iff.mp h1).1 z)⟩
theorem va_O_nar {E : String} {t : Nat} {A B : Nat → Prop} {U : State} {H : Heap} (h : va_O E t A U H) (hAB : ∀ q, q < H.size → B q → A q) : va_O E t B U H := by
  obtain ⟨cell, h1, h2, h3, h4⟩ := h
  exact ⟨cell, h1, h2, h3, fun z => h4 (hAB t (Array.getElem?_eq_some_iff.mp h1).1 z)⟩
theorem va_OF_nar {o n d : String} {v : Value} {t : Nat} {A B : Nat → Prop} {U : State} {H : Heap} (h : va_OF o n d v t A U H) (hAB : ∀ q, q < H.size → B q → A q) : va_OF o n d v t B U H := by
  obtain ⟨cf, k, i, f, cell, h1, h2, h3, h4, h5, h6⟩ := h
  exact ⟨cf, k, i, f, cell, h1, h2, h3, h4, h5, fun z => h6 (hAB t (Array.getElem?_eq_some_iff.mp h3).1 z)⟩
theorem SX_moved {aK aV : Nat → Nat} {tb fm : Nat} {A : Nat → Prop} {u U : State} {H : Heap} (hvm : u.vm.Alike U.vm) (hr : ∀ i, i < 12 → vk_R RX1 (idxW i) (txtW i) (aK i) U) (hn : va_Nw (.methodLinkNest RX2 22 yX5_bounded RX5) U) (h : SX aK aV tb fm A u H) : SX aK aV tb fm A U H := by
  obtain ⟨⟨h1, _⟩, h2, h3, h4, h5, _⟩ := h
  exact ⟨⟨h1.moved hvm, hr⟩, h2.moved hvm, h3.moved hvm, h4.moved hvm, h5.moved hvm, hn⟩
theorem EOk_SX {aK aV : Nat → Nat} {tb fm : Nat} : EOk (SX aK aV tb fm) := by
  refine ⟨fun A s U H hW h => SX_moved hW.alike (fun i hi => (h.1.2 i hi).warm hW) (va_Nw.warmM hW h.2.2.2.2.2) h, fun A u U H hv h => ?_, fun A U H H1 hq h => ?_, fun A B U H hAB h => ?_⟩
  · refine SX_moved (by rw [hv]; exact Vm.Alike.refl _) (fun i hi => (h.1.2 i hi).same hv) (va_Nw.same rfl hv.symm h.2.2.2.2.2) h
  · obtain ⟨⟨h1, r⟩, h2, h3, h4, h5, n⟩ := h
    exact ⟨⟨h1.kept hq, r⟩, h2.kept hq, h3.kept hq, h4.kept hq, h5.kept hq, n⟩
  · obtain ⟨⟨h1, r⟩, h2, h3, h4, h5, n⟩ := h
    exact ⟨⟨⟨fun i hi => ⟨va_O_nar (h1.1 i hi).1 hAB, va_OF_nar (h1.1 i hi).2.1 hAB, va_OF_nar (h1.1 i hi).2.2.1 hAB, va_T_nar (h1.1 i hi).2.2.2 hAB⟩, h1.2⟩, r⟩, va_Z_nar h2 hAB, va_Z_nar h3 hAB, va_Z_nar h4 hAB, va_T_nar h5 hAB, n⟩
/-- the nest links and the classes of arrays, as they move -/
def EC (U : State) : Prop := NN5 U ∧ AO5 U
theorem EM_EC : EM EC := by
  refine ⟨fun s U hW h => ⟨fun q hq => va_Nw.warmM hW (h.1 q hq), fun C hC => va_AO.moved hW.alike (h.2 C hC)⟩, fun u U hv h => ⟨fun q hq => va_Nw.same rfl hv.symm (h.1 q hq), fun C hC => va_AO.moved (by rw [hv]; exact Vm.Alike.refl _) (h.2 C hC)⟩⟩
