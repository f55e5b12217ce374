theorem va_RA_inj {U : State} {c c' : ClassId} {ty : FieldType} (h : va_RA U c ty) (h' : va_RA U c' ty) : c = c' := by
  cases ty <;> first | exact Option.some.inj (Eq.trans (Eq.symm h) h') | (obtain ⟨_, _, _, _, _, e⟩ := h; obtain ⟨_, _, _, _, _, e'⟩ := h'; exact Option.some.inj (e.symm.trans e'))
def kup (kap : Nat → Nat) (q k : Nat) : Nat → Nat := fun a => if a = q then k else kap a
theorem kup_s {kap : Nat → Nat} {q k : Nat} : kup kap q k q = k := if_pos rfl
theorem kup_n {kap : Nat → Nat} {q k a : Nat} (h : a ≠ q) : kup kap q k a = kap a := if_neg h
theorem okS_z {j : Nat} : okS j 0 := ⟨fun _ => ⟨0, by decide, rfl⟩, fun _ _ _ => ⟨0, by decide, rfl⟩, fun _ _ _ => ⟨0, by decide, rfl⟩⟩
theorem okm0 {cy : Nat → ClassId} {T T' : Nat → Nat → Prop} {pr : Pr} {e : va_E} (hT : ∀ a k, k ≠ 99 → T a k → T' a k) (h : ok0 cy T pr e) : ok0 cy T' pr e := by
  obtain ⟨x0, x1, x2, x3, x4, x5, x6, x7, he, p0, p1, p2, p3, p4, p5, p6⟩ := h
  exact ⟨x0, x1, x2, x3, x4, x5, x6, x7, he, hT _ _ (by decide) p0, hT _ _ (by decide) p1, hT _ _ (by decide) p2, hT _ _ (by decide) p3, hT _ _ (by decide) p4, hT _ _ (by decide) p5, p6⟩
theorem okm1 {cy : Nat → ClassId} {T T' : Nat → Nat → Prop} {pr : Pr} {e : va_E} (hT : ∀ a k, k ≠ 99 → T a k → T' a k) (h : ok1 cy T pr e) : ok1 cy T' pr e := by
  obtain ⟨x0, x1, he, p0, p1⟩ := h
  exact ⟨x0, x1, he, hT _ _ (by decide) p0, p1⟩
theorem okm2 {cy : Nat → ClassId} {T T' : Nat → Nat → Prop} {pr : Pr} {e : va_E} (hT : ∀ a k, k ≠ 99 → T a k → T' a k) (h : ok2 cy T pr e) : ok2 cy T' pr e := by
  obtain ⟨x0, x1, x2, x3, x4, he, p0, p2, p3, p4⟩ := h
  exact ⟨x0, x1, x2, x3, x4, he, p0, hT _ _ (by decide) p2, hT _ _ (by decide) p3, hT _ _ (by decide) p4⟩
theorem okm3 {cy : Nat → ClassId} {T T' : Nat → Nat → Prop} {pr : Pr} {e : va_E} (hT : ∀ a k, k ≠ 99 → T a k → T' a k) (h : ok3 cy T pr e) : ok3 cy T' pr e := by
  obtain ⟨x0, x1, x2, x3, he, p0, p1, p2, p3⟩ := h
  exact ⟨x0, x1, x2, x3, he, hT _ _ (by decide) p0, hT _ _ (by decide) p1, p2, p3⟩
theorem okm4 {cy : Nat → ClassId} {T T' : Nat → Nat → Prop} {pr : Pr} {e : va_E} (hT : ∀ a k, k ≠ 99 → T a k → T' a k) (h : ok4 cy T pr e) : ok4 cy T' pr e := by
  obtain ⟨x0, x1, x2, he, p0, p1, p2⟩ := h
  exact ⟨x0, x1, x2, he, hT _ _ (by decide) p0, p1, hT _ _ (by decide) p2⟩
theorem okm5 {cy : Nat → ClassId} {T T' : Nat → Nat → Prop} {pr : Pr} {e : va_E} (hT : ∀ a k, k ≠ 99 → T a k → T' a k) (h : ok5 cy T pr e) : ok5 cy T' pr e := by
  obtain ⟨x0, x1, he, p0, p1⟩ := h
  exact ⟨x0, x1, he, hT _ _ (by decide) p0, p1⟩
theorem okm6 {cy : Nat → ClassId} {T T' : Nat → Nat → Prop} {pr : Pr} {e : va_E} (hT : ∀ a k, k ≠ 99 → T a k → T' a k) (h : ok6 cy T pr e) : ok6 cy T' pr e := by
  obtain ⟨x0, x1, x2, x3, x4, x5, x6, x7, x8, x9, he, p2, p3, p4, p5, p8, p9⟩ := h
  exact ⟨x0, x1, x2, x3, x4, x5, x6, x7, x8, x9, he, hT _ _ (by decide) p2, hT _ _ (by decide) p3, hT _ _ (by decide) p4, p5, p8, p9⟩
theorem okm7 {cy : Nat → ClassId} {T T' : Nat → Nat → Prop} {pr : Pr} {e : va_E} (hT : ∀ a k, k ≠ 99 → T a k → T' a k) (h : ok7 cy T pr e) : ok7 cy T' pr e := by
  obtain ⟨x0, x1, x2, x3, x4, x5, he, p0, p1, p4, p5⟩ := h
  exact ⟨x0, x1, x2, x3, x4, x5, he, hT _ _ (by decide) p0, p1, hT _ _ (by decide) p4, hT _ _ (by decide) p5⟩
theorem okm8 {cy : Nat → ClassId} {T T' : Nat → Nat → Prop} {pr : Pr} {e : va_E} (hT : ∀ a k, k ≠ 99 → T a k → T' a k) (h : ok8 cy T pr e) : ok8 cy T' pr e := by
  obtain ⟨x0, x1, x2, he, p0, p1, p2⟩ := h
  exact ⟨x0, x1, x2, he, hT _ _ (by decide) p0, p1, hT _ _ (by decide) p2⟩
theorem okm9 {cy : Nat → ClassId} {T T' : Nat → Nat → Prop} {pr : Pr} {e : va_E} (hT : ∀ a k, k ≠ 99 → T a k → T' a k) (h : ok9 cy T pr e) : ok9 cy T' pr e := by
  obtain ⟨x0, x1, x2, x3, x4, x5, x6, x7, x8, x9, x10, x11, x12, he, p0, p1, p4, p5, p6, p7, p8, p9, p10, p11, p12⟩ := h
  exact ⟨x0, x1, x2, x3, x4, x5, x6, x7, x8, x9, x10, x11, x12, he, hT _ _ (by decide) p0, hT _ _ (by decide) p1, hT _ _ (by decide) p4, hT _ _ (by decide) p5, hT _ _ (by decide) p6, hT _ _ (by decide) p7, hT _ _ (by decide) p8, hT _ _ (by decide) p9, hT _ _ (by decide) p10, p11, p12⟩
theorem okm10 {cy : Nat → ClassId} {T T' : Nat → Nat → Prop} {pr : Pr} {e : va_E} (hT : ∀ a k, k ≠ 99 → T a k → T' a k) (h : ok10 cy T pr e) : ok10 cy T' pr e := by
  obtain ⟨x0, he, p0, p1⟩ := h
  exact ⟨x0, he, hT _ _ (by decide) p0, p1⟩
theorem okm11 {cy : Nat → ClassId} {T T' : Nat → Nat → Prop} {pr : Pr} {e : va_E} (hT : ∀ a k, k ≠ 99 → T a k → T' a k) (h : ok11 cy T pr e) : ok11 cy T' pr e := by
  obtain ⟨x0, x1, x2, x3, x4, x5, x6, x7, x8, x9, x10, x11, x12, he, p0, p1, p2, p3, p4, p5, p6, p7, p8, p9, p10, p11⟩ := h
  exact ⟨x0, x1, x2, x3, x4, x5, x6, x7, x8, x9, x10, x11, x12, he, hT _ _ (by decide) p0, hT _ _ (by decide) p1, hT _ _ (by decide) p2, hT _ _ (by decide) p3, hT _ _ (by decide) p4, hT _ _ (by decide) p5, hT _ _ (by decide) p6, hT _ _ (by decide) p7, hT _ _ (by decide) p8, hT _ _ (by decide) p9, hT _ _ (by decide) p10, hT _ _ (by decide) p11⟩
theorem okm12 {cy : Nat → ClassId} {T T' : Nat → Nat → Prop} {pr : Pr} {e : va_E} (hT : ∀ a k, k ≠ 99 → T a k → T' a k) (h : ok12 cy T pr e) : ok12 cy T' pr e := by
  obtain ⟨x0, x1, x2, x3, x4, x5, x6, x7, x8, x9, x11, x12, x13, x14, x15, x16, x17, x18, x19, x20, x21, x22, x23, x24, x25, x26, x27, x28, x29, x30, x31, he, p0, p1, p2, p3, p4, p5, p6, p7, p9, p10, p11, p12, p17, p18, p19, p20, p21, p22, p23, p24, p25, p26, p27, p28, p29, p30, p31⟩ := h
  exact ⟨x0, x1, x2, x3, x4, x5, x6, x7, x8, x9, x11, x12, x13, x14, x15, x16, x17, x18, x19, x20, x21, x22, x23, x24, x25, x26, x27, x28, x29, x30, x31, he, hT _ _ (by decide) p0, hT _ _ (by decide) p1, hT _ _ (by decide) p2, hT _ _ (by decide) p3, hT _ _ (by decide) p4, p5, p6, p7, hT _ _ (by decide) p9, p10, p11, p12, hT _ _ (by decide) p17, hT _ _ (by decide) p18, p19, hT _ _ (by decide) p20, hT _ _ (by decide) p21, hT _ _ (by decide) p22, hT _ _ (by decide) p23, hT _ _ (by decide) p24, hT _ _ (by decide) p25, hT _ _ (by decide) p26, hT _ _ (by decide) p27, hT _ _ (by decide) p28, hT _ _ (by decide) p29, hT _ _ (by decide) p30, p31⟩
theorem okm28 {cy : Nat → ClassId} {T T' : Nat → Nat → Prop} {pr : Pr} {e : va_E} (hT : ∀ a k, k ≠ 99 → T a k → T' a k) (h : ok28 cy T pr e) : ok28 cy T' pr e := by
  obtain ⟨f, he, hi⟩ := h
  exact ⟨f, he, fun j hj => (hi j hj).imp (fun b q => ⟨q.1, hT _ _ (by decide) q.2⟩)⟩
theorem okm46 {cy : Nat → ClassId} {T T' : Nat → Nat → Prop} {pr : Pr} {e : va_E} (hT : ∀ a k, k ≠ 99 → T a k → T' a k) (h : ok46 cy T pr e) : ok46 cy T' pr e := by
  obtain ⟨x0, x1, x2, x3, x4, x5, x6, x7, he, p0, p1, p2, p3, p4, p5, p6⟩ := h
  exact ⟨x0, x1, x2, x3, x4, x5, x6, x7, he, hT _ _ (by decide) p0, hT _ _ (by decide) p1, hT _ _ (by decide) p2, hT _ _ (by decide) p3, hT _ _ (by decide) p4, hT _ _ (by decide) p5, p6⟩
theorem okc_m {cy : Nat → ClassId} {T T' : Nat → Nat → Prop} {pr : Pr} {k : Nat} {e : va_E} (hT : ∀ a k, k ≠ 99 → T a k → T' a k) (h : okc cy T pr k e) : okc cy T' pr k e := ⟨fun z => okm0 hT (h.1 z), fun z => okm1 hT (h.2.1 z), fun z => okm2 hT (h.2.2.1 z), fun z => okm3 hT (h.2.2.2.1 z), fun z => okm4 hT (h.2.2.2.2.1 z), fun z => okm5 hT (h.2.2.2.2.2.1 z), fun z => okm6 hT (h.2.2.2.2.2.2.1 z), fun z => okm7 hT (h.2.2.2.2.2.2.2.1 z), fun z => okm8 hT (h.2.2.2.2.2.2.2.2.1 z), fun z => okm9 hT (h.2.2.2.2.2.2.2.2.2.1 z), fun z => okm10 hT (h.2.2.2.2.2.2.2.2.2.2.1 z), fun z => okm11 hT (h.2.2.2.2.2.2.2.2.2.2.2.1 z), fun z => okm12 hT (h.2.2.2.2.2.2.2.2.2.2.2.2.1 z), h.2.2.2.2.2.2.2.2.2.2.2.2.2.1, h.2.2.2.2.2.2.2.2.2.2.2.2.2.2.1, h.2.2.2.2.2.2.2.2.2.2.2.2.2.2.2.1, h.2.2.2.2.2.2.2.2.2.2.2.2.2.2.2.2.1, h.2.2.2.2.2.2.2.2.2.2.2.2.2.2.2.2.2.1, h.2.2.2.2.2.2.2.2.2.2.2.2.2.2.2.2.2.2.1, h.2.2.2.2.2.2.2.2.2.2.2.2.2.2.2.2.2.2.2.1, h.2.2.2.2.2.2.2.2.2.2.2.2.2.2.2.2.2.2.2.2.1, fun z => okm28 hT (h.2.2.2.2.2.2.2.2.2.2.2.2.2.2.2.2.2.2.2.2.2.1 z), h.2.2.2.2.2.2.2.2.2.2.2.2.2.2.2.2.2.2.2.2.2.2.1, h.2.2.2.2.2.2.2.2.2.2.2.2.2.2.2.2.2.2.2.2.2.2.2.1, h.2.2.2.2.2.2.2.2.2.2.2.2.2.2.2.2.2.2.2.2.2.2.2.2.1, h.2.2.2.2.2.2.2.2.2.2.2.2.2.2.2.2.2.2.2.2.2.2.2.2.2.1, h.2.2.2.2.2.2.2.2.2.2.2.2.2.2.2.2.2.2.2.2.2.2.2.2.2.2.1, h.2.2.2.2.2.2.2.2.2.2.2.2.2.2.2.2.2.2.2.2.2.2.2.2.2.2.2.1, h.2.2.2.2.2.2.2.2.2.2.2.2.2.2.2.2.2.2.2.2.2.2.2.2.2.2.2.2.1, h.2.2.2.2.2.2.2.2.2.2.2.2.2.2.2.2.2.2.2.2.2.2.2.2.2.2.2.2.2.1, h.2.2.2.2.2.2.2.2.2.2.2.2.2.2.2.2.2.2.2.2.2.2.2.2.2.2.2.2.2.2.1, h.2.2.2.2.2.2.2.2.2.2.2.2.2.2.2.2.2.2.2.2.2.2.2.2.2.2.2.2.2.2.2.1, h.2.2.2.2.2.2.2.2.2.2.2.2.2.2.2.2.2.2.2.2.2.2.2.2.2.2.2.2.2.2.2.2.1, h.2.2.2.2.2.2.2.2.2.2.2.2.2.2.2.2.2.2.2.2.2.2.2.2.2.2.2.2.2.2.2.2.2.1, h.2.2.2.2.2.2.2.2.2.2.2.2.2.2.2.2.2.2.2.2.2.2.2.2.2.2.2.2.2.2.2.2.2.2.1, h.2.2.2.2.2.2.2.2.2.2.2.2.2.2.2.2.2.2.2.2.2.2.2.2.2.2.2.2.2.2.2.2.2.2.2.1, h.2.2.2.2.2.2.2.2.2.2.2.2.2.2.2.2.2.2.2.2.2.2.2.2.2.2.2.2.2.2.2.2.2.2.2.2.1, h.2.2.2.2.2.2.2.2.2.2.2.2.2.2.2.2.2.2.2.2.2.2.2.2.2.2.2.2.2.2.2.2.2.2.2.2.2.1, h.2.2.2.2.2.2.2.2.2.2.2.2.2.2.2.2.2.2.2.2.2.2.2.2.2.2.2.2.2.2.2.2.2.2.2.2.2.2.1, fun z => okm46 hT (h.2.2.2.2.2.2.2.2.2.2.2.2.2.2.2.2.2.2.2.2.2.2.2.2.2.2.2.2.2.2.2.2.2.2.2.2.2.2.2.1 z), h.2.2.2.2.2.2.2.2.2.2.2.2.2.2.2.2.2.2.2.2.2.2.2.2.2.2.2.2.2.2.2.2.2.2.2.2.2.2.2.2.1, h.2.2.2.2.2.2.2.2.2.2.2.2.2.2.2.2.2.2.2.2.2.2.2.2.2.2.2.2.2.2.2.2.2.2.2.2.2.2.2.2.2.1, h.2.2.2.2.2.2.2.2.2.2.2.2.2.2.2.2.2.2.2.2.2.2.2.2.2.2.2.2.2.2.2.2.2.2.2.2.2.2.2.2.2.2.1, h.2.2.2.2.2.2.2.2.2.2.2.2.2.2.2.2.2.2.2.2.2.2.2.2.2.2.2.2.2.2.2.2.2.2.2.2.2.2.2.2.2.2.2.1, h.2.2.2.2.2.2.2.2.2.2.2.2.2.2.2.2.2.2.2.2.2.2.2.2.2.2.2.2.2.2.2.2.2.2.2.2.2.2.2.2.2.2.2.2.1, h.2.2.2.2.2.2.2.2.2.2.2.2.2.2.2.2.2.2.2.2.2.2.2.2.2.2.2.2.2.2.2.2.2.2.2.2.2.2.2.2.2.2.2.2.2.1, h.2.2.2.2.2.2.2.2.2.2.2.2.2.2.2.2.2.2.2.2.2.2.2.2.2.2.2.2.2.2.2.2.2.2.2.2.2.2.2.2.2.2.2.2.2.2.1, h.2.2.2.2.2.2.2.2.2.2.2.2.2.2.2.2.2.2.2.2.2.2.2.2.2.2.2.2.2.2.2.2.2.2.2.2.2.2.2.2.2.2.2.2.2.2.2.1, h.2.2.2.2.2.2.2.2.2.2.2.2.2.2.2.2.2.2.2.2.2.2.2.2.2.2.2.2.2.2.2.2.2.2.2.2.2.2.2.2.2.2.2.2.2.2.2.2.1, h.2.2.2.2.2.2.2.2.2.2.2.2.2.2.2.2.2.2.2.2.2.2.2.2.2.2.2.2.2.2.2.2.2.2.2.2.2.2.2.2.2.2.2.2.2.2.2.2.2.1, h.2.2.2.2.2.2.2.2.2.2.2.2.2.2.2.2.2.2.2.2.2.2.2.2.2.2.2.2.2.2.2.2.2.2.2.2.2.2.2.2.2.2.2.2.2.2.2.2.2.2.1, h.2.2.2.2.2.2.2.2.2.2.2.2.2.2.2.2.2.2.2.2.2.2.2.2.2.2.2.2.2.2.2.2.2.2.2.2.2.2.2.2.2.2.2.2.2.2.2.2.2.2.2.1, h.2.2.2.2.2.2.2.2.2.2.2.2.2.2.2.2.2.2.2.2.2.2.2.2.2.2.2.2.2.2.2.2.2.2.2.2.2.2.2.2.2.2.2.2.2.2.2.2.2.2.2.2.1, h.2.2.2.2.2.2.2.2.2.2.2.2.2.2.2.2.2.2.2.2.2.2.2.2.2.2.2.2.2.2.2.2.2.2.2.2.2.2.2.2.2.2.2.2.2.2.2.2.2.2.2.2.2.1, h.2.2.2.2.2.2.2.2.2.2.2.2.2.2.2.2.2.2.2.2.2.2.2.2.2.2.2.2.2.2.2.2.2.2.2.2.2.2.2.2.2.2.2.2.2.2.2.2.2.2.2.2.2.2.1, h.2.2.2.2.2.2.2.2.2.2.2.2.2.2.2.2.2.2.2.2.2.2.2.2.2.2.2.2.2.2.2.2.2.2.2.2.2.2.2.2.2.2.2.2.2.2.2.2.2.2.2.2.2.2.2.1, h.2.2.2.2.2.2.2.2.2.2.2.2.2.2.2.2.2.2.2.2.2.2.2.2.2.2.2.2.2.2.2.2.2.2.2.2.2.2.2.2.2.2.2.2.2.2.2.2.2.2.2.2.2.2.2.2.1, h.2.2.2.2.2.2.2.2.2.2.2.2.2.2.2.2.2.2.2.2.2.2.2.2.2.2.2.2.2.2.2.2.2.2.2.2.2.2.2.2.2.2.2.2.2.2.2.2.2.2.2.2.2.2.2.2.2.1, h.2.2.2.2.2.2.2.2.2.2.2.2.2.2.2.2.2.2.2.2.2.2.2.2.2.2.2.2.2.2.2.2.2.2.2.2.2.2.2.2.2.2.2.2.2.2.2.2.2.2.2.2.2.2.2.2.2.2⟩
theorem okc_99 {cy : Nat → ClassId} {T : Nat → Nat → Prop} {pr : Pr} {e : va_E} : okc cy T pr 99 e := ⟨fun q => absurd q (by decide), fun q => absurd q (by decide), fun q => absurd q (by decide), fun q => absurd q (by decide), fun q => absurd q (by decide), fun q => absurd q (by decide), fun q => absurd q (by decide), fun q => absurd q (by decide), fun q => absurd q (by decide), fun q => absurd q (by decide), fun q => absurd q (by decide), fun q => absurd q (by decide), fun q => absurd q (by decide), fun q => absurd q (by decide), fun q => absurd q (by decide), fun q => absurd q (by decide), fun q => absurd q (by decide), fun q => absurd q (by decide), fun q => absurd q (by decide), fun q => absurd q (by decide), fun q => absurd q (by decide), fun q => absurd q (by decide), fun q => absurd q (by decide), fun q => absurd q (by decide), fun q => absurd q (by decide), fun q => absurd q (by decide), fun q => absurd q (by decide), fun q => absurd q (by decide), fun q => absurd q (by decide), fun q => absurd q (by decide), fun q => absurd q (by decide), fun q => absurd q (by decide), fun q => absurd q (by decide), fun q => absurd q (by decide), fun q => absurd q (by decide), fun q => absurd q (by decide), fun q => absurd q (by decide), fun q => absurd q (by decide), fun q => absurd q (by decide), fun q => absurd q (by decide), fun q => absurd q (by decide), fun q => absurd q (by decide), fun q => absurd q (by decide), fun q => absurd q (by decide), fun q => absurd q (by decide), fun q => absurd q (by decide), fun q => absurd q (by decide), fun q => absurd q (by decide), fun q => absurd q (by decide), fun q => absurd q (by decide), fun q => absurd q (by decide), fun q => absurd q (by decide), fun q => absurd q (by decide), fun q => absurd q (by decide), fun q => absurd q (by decide), fun q => absurd q (by decide), fun q => absurd q (by decide), fun q => absurd q (by decide), fun q => absurd q (by decide)⟩
/-- a cell more in the pool -/
def GR (L : List Nat) (kap : Nat → Nat) (S : Nat → va_E) (q k : Nat) (e : va_E) (L1 : List Nat) (kap1 : Nat → Nat) (S1 : Nat → va_E) : Prop := q ∉ L ∧ L1 = L ++ [q] ∧ kap1 = kup kap q k ∧ S1 = va_up S q e
abbrev USP (k : Nat) : Prop := k = 6 ∨ k = 10 ∨ k = 12 ∨ k = 27 ∨ k = 50 ∨ k = 51 ∨ k = 52 ∨ k = 55
abbrev KU : Type := List Nat × (Nat → Nat) × (Nat → va_E)
/-- all but h keeps its kind; what is under way keeps its contents -/
def EXT (L : List Nat) (kap : Nat → Nat) (S : Nat → va_E) (h : Nat) (u : KU) : Prop := h ∈ u.1 ∧ ∀ a j, TK L kap a j → a ≠ h → TK u.1 u.2.1 a j ∧ (j = 99 → u.2.2 a = S a)
section GROW
variable {cy : Nat → ClassId} {pr : Pr} {L L1 Lc : List Nat} {kap kap1 kc : Nat → Nat} {S S1 Sc : Nat → va_E} {q k h : Nat} {e : va_E}
theorem GR.ne (g : GR L kap S q k e L1 kap1 S1) {x : Nat} (hx : x ∈ L) : x ≠ q := fun z => g.1 (z ▸ hx)
theorem GR.tk (g : GR L kap S q k e L1 kap1 S1) {x j : Nat} (hx : TK L kap x j) : TK L1 kap1 x j := by
  have hn := g.ne hx.1
  obtain ⟨-, rfl, rfl, -⟩ := g
  exact ⟨List.mem_append_left _ hx.1, (kup_n hn).trans hx.2⟩
theorem GR.new (g : GR L kap S q k e L1 kap1 S1) : TK L1 kap1 q k := by
  obtain ⟨-, rfl, rfl, -⟩ := g
  exact ⟨List.mem_append_right _ (List.mem_singleton.mpr rfl), kup_s⟩
theorem GR.self (g : GR L kap S q k e L1 kap1 S1) : S1 q = e := by
  obtain ⟨-, -, -, rfl⟩ := g
  exact va_up_self _ _ _
theorem GR.at (g : GR L kap S q k e L1 kap1 S1) {x : Nat} {ex : va_E} (hx : x ∈ L) (hs : S x = ex) : S1 x = ex := by
  have hn := g.ne hx
  obtain ⟨-, -, -, rfl⟩ := g
  rw [va_up_ne _ _ hn]
  exact hs
theorem GR.ty (g : GR L kap S q k e L1 kap1 S1) (hT : Ty cy L kap pr S) (he : okc cy (TK L1 kap1) pr k e) : Ty cy L1 kap1 pr S1 := fun a ha => by
  have hm : ∀ b j, j ≠ 99 → TK L kap b j → TK L1 kap1 b j := fun b j _ hb => g.tk hb
  by_cases c : a = q
  · subst c
    rw [g.self, g.new.2]
    exact he
  · have ha' : a ∈ L := by
      have ha2 := ha
      rw [g.2.1] at ha2
      rcases List.mem_append.mp ha2 with z | z
      · exact z
      · exact absurd (List.mem_singleton.mp z) c
    have hk := (g.tk ⟨ha', rfl⟩ : TK L1 kap1 a (kap a)).2
    rw [hk, g.at ha' rfl]
    exact okc_m hm (hT a ha')
theorem Ty.ret {a : Nat} (hk : kap1 = kup kap a k) (hT : Ty cy L kap pr S) (ha : TK L kap a 99) (he : okc cy (TK L kap1) pr k (S a)) : Ty cy L kap1 pr S := fun b hb => by
  subst hk
  by_cases c : b = a
  · subst c
    rw [kup_s]
    exact he
  · rw [kup_n c]
    exact okc_m (fun x j hj hx => ⟨hx.1, (kup_n (fun z => hj (by rw [← hx.2, z]; exact ha.2))).trans hx.2⟩) (hT b hb)
theorem TK_ret {a x j : Nat} (hk : kap1 = kup kap a k) (hx : TK L kap x j) (hn : x ≠ a) : TK L kap1 x j := by
  subst hk
  exact ⟨hx.1, (kup_n hn).trans hx.2⟩
theorem TK_rets {a : Nat} (hk : kap1 = kup kap a k) (ha : a ∈ L) : TK L kap1 a k := by
  subst hk
  exact ⟨ha, kup_s⟩
theorem EX_0 (hh : h ∈ L) : EXT L kap S h (L, kap, S) := ⟨hh, fun a j ha _ => ⟨ha, fun _ => rfl⟩⟩
theorem EX_nq (x : EXT L kap S h (Lc, kc, Sc)) (hq : q ∉ Lc) {a : Nat} (ha : a ∈ L) : a ≠ q := fun z => by
  by_cases c : a = h
  · exact hq (z ▸ c ▸ x.1)
  · exact hq (z ▸ (x.2 a _ ⟨ha, rfl⟩ c).1.1)
theorem EX_gr (x : EXT L kap S h (Lc, kc, Sc)) (g : GR Lc kc Sc q k e L1 kap1 S1) : EXT L kap S h (L1, kap1, S1) := ⟨(g.tk ⟨x.1, rfl⟩).1, fun a j ha hn => ⟨g.tk (x.2 a j ha hn).1, fun z => g.at (x.2 a j ha hn).1.1 ((x.2 a j ha hn).2 z)⟩⟩
theorem EX_put (x : EXT L kap S h (Lc, kc, Sc)) {b : Nat} (e1 : S1 = va_up Sc b e) (hb : ∀ a, a ∈ L → a ≠ h → a ≠ b) : EXT L kap S h (Lc, kc, S1) := ⟨x.1, fun a j ha hn => ⟨(x.2 a j ha hn).1, fun z => by
  show S1 a = S a
  rw [e1, va_up_ne _ _ (hb a ha.1 hn)]
  exact (x.2 a j ha hn).2 z⟩⟩
theorem EX_ret (x : EXT L kap S h (Lc, kc, Sc)) {b : Nat} (hk : kap1 = kup kc b k) (hb : ∀ a, a ∈ L → a ≠ h → a ≠ b) : EXT L kap S h (Lc, kap1, Sc) := ⟨x.1, fun a j ha hn => ⟨TK_ret hk (x.2 a j ha hn).1 (hb a ha.1 hn), (x.2 a j ha hn).2⟩⟩
theorem EX_fr (x : EXT L kap S h (Lc, kc, Sc)) {M : List Nat} (hF : Fr kc M Sc S1) (hM : 99 ∉ M) : EXT L kap S h (Lc, kc, S1) := ⟨x.1, fun a j ha hn => ⟨(x.2 a j ha hn).1, fun z => by
  have hk : kc a = 99 := (x.2 a j ha hn).1.2.trans z
  show S1 a = S a
  rw [hF.1 a (by rw [hk]; exact hM)]
  exact (x.2 a j ha hn).2 z⟩⟩
theorem EX_tr (x : EXT L kap S h (Lc, kc, Sc)) {q : Nat} {u : KU} (y : EXT Lc kc Sc q u) (hq : ∀ a, a ∈ L → a ≠ q) (hh : h ≠ q) : EXT L kap S h u := ⟨(y.2 h _ ⟨x.1, rfl⟩ hh).1.1, fun a j ha hn => ⟨(y.2 a j (x.2 a j ha hn).1 (hq a ha.1)).1, fun z => ((y.2 a j (x.2 a j ha hn).1 (hq a ha.1)).2 z).trans ((x.2 a j ha hn).2 z)⟩⟩
theorem U_gr {B P P' : Nat → Nat → Prop} (x : ∀ a k, USP k → TK Lc kc a k → B a k ∨ P a k) (g : GR Lc kc Sc q k e L1 kap1 S1) (hP : ∀ a k, P a k → P' a k) (hn : USP k → P' q k) : ∀ a k, USP k → TK L1 kap1 a k → B a k ∨ P' a k := fun a j hj ha => by
  by_cases c : a = q
  · subst c
    have e : k = j := g.new.2.symm.trans ha.2
    subst e
    exact Or.inr (hn hj)
  · have ha' : a ∈ Lc := by
      have ha2 := ha.1
      rw [g.2.1] at ha2
      rcases List.mem_append.mp ha2 with z | z
      · exact z
      · exact absurd (List.mem_singleton.mp z) c
    have hk : kc a = j := (g.tk ⟨ha', rfl⟩ : TK L1 kap1 a (kc a)).2.symm.trans ha.2
    exact (x a j hj ⟨ha', hk⟩).imp_right (hP a j)
theorem U_ret {B P P' : Nat → Nat → Prop} (x : ∀ a k, USP k → TK Lc kc a k → B a k ∨ P a k) {b : Nat} (hk : kap1 = kup kc b k) (hP : ∀ a k, P a k → P' a k) (hn : USP k → P' b k) : ∀ a k, USP k → TK Lc kap1 a k → B a k ∨ P' a k := fun a j hj ha => by
  subst hk
  by_cases c : a = b
  · subst c
    have e : k = j := kup_s.symm.trans ha.2
    subst e
    exact Or.inr (hn hj)
  · exact (x a j hj ⟨ha.1, (kup_n c).symm.trans ha.2⟩).imp_right (hP a j)
theorem U_tr {B P P' Pc : Nat → Nat → Prop} (x : ∀ a k, USP k → TK Lc kc a k → B a k ∨ P a k) (y : ∀ a k, USP k → TK L1 kap1 a k → TK Lc kc a k ∨ Pc a k) (hP : ∀ a k, P a k → P' a k) (hc : ∀ a k, Pc a k → P' a k) : ∀ a k, USP k → TK L1 kap1 a k → B a k ∨ P' a k := fun a j hj ha => (y a j hj ha).elim (fun z => (x a j hj z).imp_right (hP a j)) (fun z => Or.inr (hc a j z))
/-- what a cell of a kind holds when all is new -/
def STPQ (k : Nat) (e : va_E) : Prop := (k = 27 ∨ k = 55 → af e = fun _ => 0) ∧ (k = 6 → inf e 0 = 0 ∧ inf e 1 = -1) ∧ (k = 12 → inf e 13 = 0 ∧ inf e 14 = -1)
def SPI (L : List Nat) (kap : Nat → Nat) (S : Nat → va_E) : Prop := ∀ a k, TK L kap a k → STPQ k (S a)
theorem STPQ_n (hk : k ≠ 27 ∧ k ≠ 55 ∧ k ≠ 6 ∧ k ≠ 12) : STPQ k e := ⟨fun h => absurd h (fun z => z.elim hk.1 hk.2.1), fun h => absurd h hk.2.2.1, fun h => absurd h hk.2.2.2⟩
theorem inf_w13 (e : va_E) : inf e 13 = (match (wrs e).1 with | some (.int a) => a | _ => 0) := by rcases e with x | ⟨c, fs⟩ <;> rfl
theorem inf_w14 (e : va_E) : inf e 14 = (match (wrs e).2 with | some (.int a) => a | _ => 0) := by rcases e with x | ⟨c, fs⟩ <;> rfl
theorem wrs_13 {e e' : va_E} (h : wrs e = wrs e') : inf e 13 = inf e' 13 := by rw [inf_w13 e, inf_w13 e', h]
theorem wrs_14 {e e' : va_E} (h : wrs e = wrs e') : inf e 14 = inf e' 14 := by rw [inf_w14 e, inf_w14 e', h]
theorem SP_gr (x : SPI Lc kc Sc) (g : GR Lc kc Sc q k e L1 kap1 S1) (he : STPQ k e) : SPI L1 kap1 S1 := fun a j ha => by
  by_cases c : a = q
  · subst c
    have ej : k = j := g.new.2.symm.trans ha.2
    subst ej
    rw [g.self]
    exact he
  · have ha' : a ∈ Lc := by
      have ha2 := ha.1
      rw [g.2.1] at ha2
      rcases List.mem_append.mp ha2 with z | z
      · exact z
      · exact absurd (List.mem_singleton.mp z) c
    have hk : kc a = j := (g.tk ⟨ha', rfl⟩ : TK L1 kap1 a (kc a)).2.symm.trans ha.2
    rw [g.at ha' rfl]
    exact x a j ⟨ha', hk⟩
theorem SP_up (x : SPI Lc kc Sc) {b : Nat} (e1 : S1 = va_up Sc b e) (hb : TK Lc kc b k) (he : STPQ k e) : SPI Lc kc S1 := fun a j ha => by
  rw [e1]
  by_cases c : a = b
  · subst c
    have ej : k = j := hb.2.symm.trans ha.2
    subst ej
    rw [va_up_self]
    exact he
  · rw [va_up_ne _ _ c]
    exact x a j ha
theorem SP_ret (x : SPI Lc kc Sc) {b : Nat} (hk : kap1 = kup kc b k) (he : STPQ k (Sc b)) : SPI Lc kap1 Sc := fun a j ha => by
  subst hk
  by_cases c : a = b
  · subst c
    have ej : k = j := kup_s.symm.trans ha.2
    subst ej
    exact he
  · exact x a j ⟨ha.1, (kup_n c).symm.trans ha.2⟩
theorem SP_fr (x : SPI Lc kc Sc) {M : List Nat} (hF : Fr kc M Sc S1) (h1 : 27 ∉ M) (h2 : 55 ∉ M) (h3 : 6 ∉ M) (h4 : 112 ∉ M) : SPI Lc kc S1 := fun a j ha => ⟨fun h => by
  have e : S1 a = Sc a := hF.1 a (by rw [ha.2]; rcases h with h | h <;> rw [h] <;> assumption)
  rw [e]
  exact (x a j ha).1 h, fun h => by
  have e : S1 a = Sc a := hF.1 a (by rw [ha.2, h]; exact h3)
  rw [e]
  exact (x a j ha).2.1 h, fun h => by
  have e := hF.2 h4 a (by rw [ha.2, h])
  rw [wrs_13 e, wrs_14 e]
  exact (x a j ha).2.2 h⟩
end GROW
section PLG
variable {p : Program} {l : Launch} {e : Env} {R : Room} {s : State} {m : MethodId} {args : Array Value} {below : List Frame} {meth : Method} {c : Code} {H : Heap} {locs : List Loc} {cells slots : Nat} {Q : State → Prop}
variable {cc : ByteArray} {pc : Nat} {ls : Array Slot} {rest : List Value} {dC : Nat → ClassId} {dI : Nat → Nat → Nat} {cy : Nat → ClassId} {L : List Nat} {A : Nat → Prop} {S : Nat → va_E} {a : Nat} {H0 : Heap}
theorem PW_A (hW : PW dC dI L A H0 S H locs) {q : Nat} (hq : q ∈ L) : A q := by
  obtain ⟨k, h1, -⟩ := pl_at (S := S) hq rfl
  exact hW.2.1.2 k _ h1
theorem pl_newa {kap : Nat → Nat} {k : Nat} (hx : p.tables.exec = Jvm.exec) (hb : c.code = cc) {atype : ArrayType} (harr : (Cond.arrayClass (newarray.typeOf atype)).before args s = true) {ty : FieldType} (hty : newarray.typeOf atype = ty) (hK : va_K (dC, dI) vwCl (cyT cy) s) (hW : PW dC dI L A H0 S H locs) (hA : ∀ q, H0.size ≤ q → A q) (t0 : Nat) {cA : ClassId} (ht : (cyT cy)[t0]? = some (cA, ty)) {n : Int32} {N' : Nat} {a0 : vp_A} (ha : ∀ cA : ClassId, vp_cell cA a0 = arrV cA N' (fun _ => defaultValue ty)) (hn : ¬ n < 0) (hN : n.toNatClampNeg = N') (hbytes : N' * componentBytes ty ≤ 536870912) (hcells : cells + 1 ≤ R.cells) (hslots : slots + N' ≤ R.slots) (hdg : decode cc pc = .ok (.newarray atype, 2))
    (kk : ∀ (q : Nat) (H1 : Heap) (L1 : List Nat) (kap1 : Nat → Nat) (S1 : Nat → va_E), GR L kap S q k (.inl (cA, a0)) L1 kap1 S1 → PW dC dI L1 A H0 S1 H1 locs → W p l e R s m args below meth c H1 locs (cells + 1) (slots + N') Q (F0 m (pc + 2) ls (.ref q :: rest))) : W p l e R s m args below meth c H locs cells slots Q (F0 m pc ls (.int n :: rest)) := by
  refine va_newa hx hb harr hty hK hW.1 hW.2.1 hW.2.2 hA ha hn hN hbytes hcells hslots hdg (fun q c2 H1 hK1 hP1 hD1 hS1 => ?_)
  have e1 : c2 = cA := va_RA_inj (hK1.2 5 _ rfl).2 (hK.2 t0 _ ht).2
  subst e1
  have hf : q ∉ L := va_pl_fresh2 (X := []) hD1
  rw [va_pl_push hf] at hP1 hD1
  exact kk q H1 _ _ _ ⟨hf, rfl, rfl, rfl⟩ ⟨hP1, hD1, hS1⟩
theorem pl_newq {kap : Nat → Nat} {k : Nat} (hx : p.tables.exec = Jvm.exec) (hb : c.code = cc) {own C : String} {index : Nat} (hown : s.vm.findClass own = some m.cls) (hclink : (Cond.classLink own index C).before args s = true) (hover : va_AO C s) (hK : va_K (dC, dI) vwCl (cyT cy) s) (hW : PW dC dI L A H0 S H locs) (hA : ∀ q, H0.size ≤ q → A q) (t0 : Nat) {cA : ClassId} (ht : (cyT cy)[t0]? = some (cA, .object C)) {n : Int32} {N' : Nat} (hn : ¬ n < 0) (hN : n.toNatClampNeg = N') (hbytes : N' * 4 ≤ 536870912) (hcells : cells + 1 ≤ R.cells) (hslots : slots + N' ≤ R.slots) (hdg : decode cc pc = .ok (.anewarray index, 3))
    (kk : ∀ (q : Nat) (H1 : Heap) (L1 : List Nat) (kap1 : Nat → Nat) (S1 : Nat → va_E), GR L kap S q k (.inl (cA, N', .inr (.inr (.inr (.inr (fun _ => none)))))) L1 kap1 S1 → PW dC dI L1 A H0 S1 H1 locs → W p l e R s m args below meth c H1 locs (cells + 1) (slots + N') Q (F0 m (pc + 3) ls (.ref q :: rest))) : W p l e R s m args below meth c H locs cells slots Q (F0 m pc ls (.int n :: rest)) := by
  refine va_newq hx hb hown hclink hover hK hW.1 hW.2.1 hW.2.2 hA hn hN hbytes hcells hslots hdg (fun q c2 H1 hK1 hP1 hD1 hS1 => ?_)
  have e1 : c2 = cA := va_RA_inj (hK1.2 5 _ rfl).2 (hK.2 t0 _ ht).2
  subst e1
  have hf : q ∉ L := va_pl_fresh2 (X := []) hD1
  rw [va_pl_push hf] at hP1 hD1
  exact kk q H1 _ _ _ ⟨hf, rfl, rfl, rfl⟩ ⟨hP1, hD1, hS1⟩
theorem pl_new {kap : Nat → Nat} {k : Nat} (hx : p.tables.exec = Jvm.exec) (hb : c.code = cc) {own C : String} {T : u_T} {N ci index : Nat} (hT : ∀ w ∈ TB, w.before args s = true) (hin : ∀ w ∈ u_ws C T N, w ∈ TB) (ty : Nat → FieldType) (hty : ∀ k, k < N → parseFieldDescriptor (T k).2.2.1 = some (ty k)) (hown : s.vm.findClass own = some m.cls) (hcl : (Cond.classLink own index C).before args s = true) (hinst : (Cond.instantiable C N).before args s = true) (hini : (Cond.initialized C).before args s = true) (hK : va_K (dC, dI) vwCl (cyT cy) s) (hW : PW dC dI L A H0 S H locs) (hA : ∀ q, H0.size ≤ q → A q) (hc : vwCl[ci]? = some (C, T, N)) {fs : List Value} (hfs : ∀ j, j < N → defaultValue (ty j) = vp_V fs j) (hcells : cells + 1 ≤ R.cells) (hslots : slots + N ≤ R.slots) (hdg : decode cc pc = .ok (.new index, 3))
    (kk : ∀ (q : Nat) (H1 : Heap) (L1 : List Nat) (kap1 : Nat → Nat) (S1 : Nat → va_E), GR L kap S q k (.inr (ci, fs)) L1 kap1 S1 → PW dC dI L1 A H0 S1 H1 locs → W p l e R s m args below meth c H1 locs (cells + 1) (slots + N) Q (F0 m (pc + 3) ls (.ref q :: rest))) : W p l e R s m args below meth c H locs cells slots Q (F0 m pc ls rest) := by
  refine va_new hx hb hT hin ty hty hown hcl hinst hini hK hW.1 hW.2.1 hW.2.2 hA hc hfs hcells hslots hdg (fun q H1 hP1 hD1 hS1 => ?_)
  have hf : q ∉ L := va_pl_fresh2 (X := []) hD1
  rw [va_pl_push hf] at hP1 hD1
  exact kk q H1 _ _ _ ⟨hf, rfl, rfl, rfl⟩ ⟨hP1, hD1, hS1⟩
theorem pl_putF (hx : p.tables.exec = Jvm.exec) (hb : c.code = cc) {own C : String} {T : u_T} {N ci index : Nat} (hT : ∀ w ∈ TB, w.before args s = true) (hin : ∀ w ∈ u_ws C T N, w ∈ TB) (ty0 : Nat → FieldType) (hty : ∀ k, k < N → parseFieldDescriptor (T k).2.2.1 = some (ty0 k)) (hnm : ∀ a, a < N → ∀ b, b < N → a ≠ b → (T a).2.1 ≠ (T b).2.1) (hown : s.vm.findClass own = some m.cls) (hK : va_K (dC, dI) vwCl (cyT cy) s) (hW : PW dC dI L A H0 S H locs) (ha : a ∈ L) {fs : List Value} (he : S a = .inr (ci, fs)) (hc : vwCl[ci]? = some (C, T, N)) (k : Nat) (hk : k < N) (hlink : Cond.fieldLink own index (T k).1 (T k).2.1 (T k).2.2.1 ∈ TB) (hfin : (T k).2.2.2 = true) (hin2 : meth.name = "<init>") (hdecl : (T k).1 = own) {ty : FieldType} {v : Value} (hd : parseFieldDescriptor (T k).2.2.1 = some ty) (hn : narrow ty v = v) (hfit : fits ty v = true) (hl : k < fs.length) {fs' : List Value} (hfs : fs.set k v = fs') (hdg : decode cc pc = .ok (.putfield index, 3))
    (kk : ∀ (H1 : Heap) (locs1 : List Loc) (S1 : Nat → va_E), S1 = va_up S a (.inr (ci, fs')) → PW dC dI L A H0 S1 H1 locs1 → W p l e R s m args below meth c H1 locs1 cells slots Q (F0 m (pc + 3) ls rest)) : W p l e R s m args below meth c H locs cells slots Q (F0 m pc ls (v :: .ref a :: rest)) := by
  obtain ⟨q, hq0, hq⟩ := pl_at ha he
  refine va_putF hx hb hT hin ty0 hty hnm hown hK hW.1 hW.2.1 hW.2.2 q hq hc k hk (hT _ hlink) (fun _ h => h) hfin hin2 hdecl hd hn hfit hl hdg (fun H1 locs1 h1 h2 h3 => ?_)
  rw [pl_up hW.2.1 ha hq0] at h1 h2
  rw [hfs] at h1 h2
  exact kk H1 locs1 _ rfl ⟨h1, h2, h3⟩
theorem pl_callk {mc ms : Nat} {REL : KU → Prop} {av : Array Value} {st0 : List Value} (hr : va_Run p l e R s m args below meth c H locs cells slots mc ms (F0 m pc ls st0) rest (va_Qv REL (fun u t => pB dC dI (AL L H.size) (va_pl u.1 u.2.2) (cyT cy) t) (AL L H.size) av) (AL L H.size)) (hW : PW dC dI L A s.heap S H locs) (hA : ∀ q, s.heap.size ≤ q → A q)
    (kk : ∀ (L1 : List Nat) (kap1 : Nat → Nat) (S1 : Nat → va_E) (H1 : Heap) (locs1 : List Loc), REL (L1, kap1, S1) → PW dC dI L1 A s.heap S1 H1 locs1 → W p l e R s m args below meth c H1 locs1 (cells + mc) (slots + ms) Q (F0 m (pc + 3) ls rest)) : W p l e R s m args below meth c H locs cells slots Q (F0 m pc ls st0) := by
  have hAL : ∀ q, AL L H.size q → A q := fun q h => h.elim (fun h => PW_A hW h) (fun h => hA q (Nat.le_trans hW.2.2.1 h))
  refine va_callv hr hW.2.2 (fun q _ h => hAL q h) hAL (fun u t H1 locs1 ht hvm hrel hB hz hk hS => ?_)
  obtain ⟨h1, -, h3⟩ := hB
  rw [ht] at h1
  exact kk u.1 u.2.1 u.2.2 H1 locs1 hrel ⟨h1, h3.weaken (fun _ _ _ h => hAL _ h), hS⟩
end PLG
