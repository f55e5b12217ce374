/-! the reference's reading, by the text -/
def lfd (S : Nat → va_E) (o i : Nat) : Nat → Int64 := match S (rf (S o) i) with
  | .inl (_, _, .inr (.inl f)) => f
  | _ => fun _ => 0
theorem lfd_i {S : Nat → va_E} {o k i x n : Nat} {c : ClassId} {f : Nat → Int64} {fs : List Value} (h : S o = .inr (k, fs)) (hx : fs[i]? = some (.ref x)) (ha : S x = .inl (c, n, .inr (.inl f))) : lfd S o i = f := by
  unfold lfd
  rw [rf_i h hx, ha]
def MF (S : Nat → va_E) (o : Nat) (g : Nat → Int32) (nm : Nat → Int64) (sp sn : Nat) (wr wa sen ra : Int32) (pa ki rs : Nat) : Prop := MK S o sp sn wr pa ki rs ∧ inf (S o) 14 = wa ∧ inf (S o) 15 = sen ∧ inf (S o) 16 = ra ∧ fld S o 9 = g ∧ lfd S o 3 = nm
/-- bytes -/
def BR (g : Nat → Int32) : Prop := ∀ j, j < 900 → -128 ≤ (g j).toInt ∧ (g j).toInt ≤ 127
theorem isL_i {x : Int32} : isL x = true ↔ 97 ≤ x.toInt ∧ x.toInt ≤ 122 := by
  unfold isL
  rw [decide_eq_true_iff, Int32.le_iff_toInt_le, Int32.le_iff_toInt_le]
  have e1 : (97 : Int32).toInt = 97 := by decide
  have e2 : (122 : Int32).toInt = 122 := by decide
  rw [e1, e2]
theorem isD_i {x : Int32} : isD x = true ↔ 48 ≤ x.toInt ∧ x.toInt ≤ 57 := by
  unfold isD
  rw [decide_eq_true_iff, Int32.le_iff_toInt_le, Int32.le_iff_toInt_le]
  have e1 : (48 : Int32).toInt = 48 := by decide
  have e2 : (57 : Int32).toInt = 57 := by decide
  rw [e1, e2]
theorem isL_6 {x : Int32} {z : Int64} (ez : z = x.toInt64) : (97 ≤ z ∧ z ≤ 122) ↔ isL x = true := by
  subst ez
  rw [isL_i, Int64.le_iff_toInt_le, Int64.le_iff_toInt_le, Int32.toInt_toInt64]
  have e1 : (97 : Int64).toInt = 97 := by decide
  have e2 : (122 : Int64).toInt = 122 := by decide
  rw [e1, e2]
theorem isD_6 {x : Int32} {z : Int64} (ez : z = x.toInt64) : (48 ≤ z ∧ z ≤ 57) ↔ isD x = true := by
  subst ez
  rw [isD_i, Int64.le_iff_toInt_le, Int64.le_iff_toInt_le, Int32.toInt_toInt64]
  have e1 : (48 : Int64).toInt = 48 := by decide
  have e2 : (57 : Int64).toInt = 57 := by decide
  rw [e1, e2]
theorem by_255 {x : Int32} (h : -128 ≤ x.toInt ∧ x.toInt ≤ 127) : (x &&& 255).toInt = if 0 ≤ x.toInt then x.toInt else x.toInt + 256 := by
  obtain ⟨j, hj, e⟩ : ∃ j : Int8, j.toInt = x.toInt ∧ x = j.toInt32 := by
    refine ⟨x.toInt8, ?_, ?_⟩
    · rw [Int32.toInt_toInt8]
      exact Int.bmod_eq_of_le (by omega) (by omega)
    · apply Int32.toInt_inj.mp
      rw [Int8.toInt_toInt32, Int32.toInt_toInt8]
      exact (Int.bmod_eq_of_le (by omega) (by omega)).symm
  rw [pk_and x 8 (by decide), nI_toInt (by omega)]
  have hb : (x.toBitVec.toNat : Int) = if 0 ≤ x.toInt then x.toInt else x.toInt + 4294967296 := by
    have hx : x.toInt = x.toBitVec.toInt := rfl
    rw [hx, BitVec.toInt_eq_toNat_cond]
    have hl := x.toBitVec.isLt
    split <;> split <;> omega
  by_cases c : 0 ≤ x.toInt
  · rw [if_pos c] at hb ⊢
    omega
  · rw [if_neg c] at hb ⊢
    omega
theorem isL_255 {x : Int32} (h : -128 ≤ x.toInt ∧ x.toInt ≤ 127) : isL (x &&& 255) = true ↔ isL x = true := by
  rw [isL_i, isL_i, by_255 h]
  split <;> omega
theorem isD_255 {x : Int32} (h : -128 ≤ x.toInt ∧ x.toInt ≤ 127) : isD (x &&& 255) = true ↔ isD x = true := by
  rw [isD_i, isD_i, by_255 h]
  split <;> omega
theorem sem_255 {x : Int32} (h : -128 ≤ x.toInt ∧ x.toInt ≤ 127) : x &&& 255 = 59 ↔ x = 59 := by
  have e : (59 : Int32).toInt = 59 := by decide
  have h1 := by_255 h
  constructor
  · intro z
    rw [z, e] at h1
    apply Int32.toInt_inj.mp
    rw [e]
    split at h1 <;> omega
  · intro z
    apply Int32.toInt_inj.mp
    rw [h1, z, e]
    rfl
theorem neg1_L : ¬ isL (-1) = true := by decide
theorem neg1_D : ¬ isD (-1) = true := by decide
/-- what peek answers -/
def PK (g : Nat → Int32) (n p : Nat) : Int32 := if SK g n p < n then g (SK g n p) &&& 255 else -1
theorem PK_L {g : Nat → Int32} {n p : Nat} (hg : BR g) (hn : n ≤ 900) : isL (PK g n p) = true ↔ (SK g n p < n ∧ isL (g (SK g n p)) = true) := by
  unfold PK
  by_cases h : SK g n p < n
  · rw [if_pos h, isL_255 (hg _ (by omega))]
    exact ⟨fun z => ⟨h, z⟩, fun z => z.2⟩
  · rw [if_neg h]
    exact ⟨fun z => absurd z neg1_L, fun z => absurd z.1 h⟩
theorem PK_D {g : Nat → Int32} {n p : Nat} (hg : BR g) (hn : n ≤ 900) : isD (PK g n p) = true ↔ (SK g n p < n ∧ isD (g (SK g n p)) = true) := by
  unfold PK
  by_cases h : SK g n p < n
  · rw [if_pos h, isD_255 (hg _ (by omega))]
    exact ⟨fun z => ⟨h, z⟩, fun z => z.2⟩
  · rw [if_neg h]
    exact ⟨fun z => absurd z neg1_D, fun z => absurd z.1 h⟩
theorem LD_x {x : Int32} (h : isL x = true) : ¬ isD x = true := by
  rw [isL_i] at h
  rw [isD_i]
  omega
theorem PK_s {g : Nat → Int32} {n p : Nat} (hg : BR g) (hn : n ≤ 900) : PK g n p = 59 ↔ tkc g n p = 2 := by
  unfold PK
  by_cases h : SK g n p < n
  · rw [if_pos h, sem_255 (hg _ (by omega))]
    by_cases hl : isL (g (SK g n p)) = true
    · constructor
      · intro z
        rw [z] at hl
        exact absurd hl (by decide)
      · intro z
        rcases wdx_c g (SK g n p) (LT g n (SK g n p) - SK g n p) with ⟨-, hk⟩ | ⟨hw, hk⟩
        · rw [(tk_name h hl hk).1] at z
          split at z <;> omega
        · rw [(tk_word h hl hw hk).1] at z
          omega
    · by_cases hd : isD (g (SK g n p)) = true
      · constructor
        · intro z
          rw [z] at hd
          exact absurd hd (by decide)
        · intro z
          rw [(tk_num h hl hd).1] at z
          omega
      · rw [(tk_sign h hl hd).1]
        constructor
        · intro z
          rw [if_pos z]
        · intro z
          by_cases q : g (SK g n p) = 59
          · exact q
          · rw [if_neg q] at z
            omega
  · rw [if_neg h, (tk_end h).1]
    exact ⟨fun z => absurd z (by decide), fun z => by omega⟩

