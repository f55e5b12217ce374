/-! The text as both readers take it: skipping, letters, digits, words, tokens; names by the places where they are told. -/
def adv (P : Nat → Bool) : Nat → Nat → Nat
  | 0, i => i
  | f + 1, i => if P i = true then adv P f (i + 1) else i
theorem adv_s {P : Nat → Bool} : ∀ (f i j : Nat), i ≤ j → j - i < f → (∀ k, i ≤ k → k < j → P k = true) → ¬ P j = true → adv P f i = j
  | 0, _, _, _, h, _, _ => absurd h (Nat.not_lt_zero _)
  | f + 1, i, j, hij, hf, h, hn => by
    show (if P i = true then adv P f (i + 1) else i) = j
    by_cases e : i = j
    · subst e
      rw [if_neg hn]
    · rw [if_pos (h i (Nat.le_refl _) (by omega))]
      exact adv_s f (i + 1) j (by omega) (by omega) (fun k a b => h k (by omega) b) hn
theorem adv_ge {P : Nat → Bool} : ∀ (f i : Nat), i ≤ adv P f i
  | 0, _ => Nat.le_refl _
  | f + 1, i => by
    show i ≤ (if P i = true then adv P f (i + 1) else i)
    by_cases e : P i = true
    · rw [if_pos e]
      have := adv_ge (P := P) f (i + 1)
      omega
    · rw [if_neg e]
      exact Nat.le_refl _
theorem adv_bd {P : Nat → Bool} {n : Nat} (h : ∀ k, n ≤ k → ¬ P k = true) : ∀ (f i : Nat), i ≤ n → adv P f i ≤ n
  | 0, _, hi => hi
  | f + 1, i, hi => by
    show (if P i = true then adv P f (i + 1) else i) ≤ n
    by_cases e : P i = true
    · rw [if_pos e]
      have hn : i < n := by
        by_cases q : n ≤ i
        · exact absurd e (h i q)
        · omega
      exact adv_bd h f (i + 1) (by omega)
    · rw [if_neg e]
      exact hi
theorem adv_in {P : Nat → Bool} : ∀ (f i k : Nat), i ≤ k → k < adv P f i → P k = true
  | 0, i, k, h1, h2 => by
    have h2 : k < i := h2
    omega
  | f + 1, i, k, h1, h2 => by
    have h2 : k < (if P i = true then adv P f (i + 1) else i) := h2
    by_cases e : P i = true
    · by_cases q : k = i
      · rw [q]; exact e
      · rw [if_pos e] at h2
        exact adv_in f (i + 1) k (by omega) h2
    · rw [if_neg e] at h2
      omega
theorem adv_en {P : Nat → Bool} {n : Nat} (h : ∀ k, n ≤ k → ¬ P k = true) : ∀ (f i : Nat), n - i < f → ¬ P (adv P f i) = true
  | 0, _, hf => absurd hf (Nat.not_lt_zero _)
  | f + 1, i, hf => by
    show ¬ P (if P i = true then adv P f (i + 1) else i) = true
    by_cases e : P i = true
    · rw [if_pos e]
      have hn : i < n := by
        by_cases q : n ≤ i
        · exact absurd e (h i q)
        · omega
      exact adv_en h f (i + 1) (by omega)
    · rw [if_neg e]
      exact e
def AD (P : Nat → Bool) (i : Nat) : Nat := adv P 2000 i
theorem AD_s {P : Nat → Bool} {i j : Nat} (hij : i ≤ j) (hj : j ≤ 1000) (h : ∀ k, i ≤ k → k < j → P k = true) (hn : ¬ P j = true) : AD P i = j := adv_s 2000 i j hij (by omega) h hn
theorem AD_ge {P : Nat → Bool} {i : Nat} : i ≤ AD P i := adv_ge 2000 i
theorem AD_in {P : Nat → Bool} {i k : Nat} (h1 : i ≤ k) (h2 : k < AD P i) : P k = true := adv_in 2000 i k h1 h2
def isL (x : Int32) : Bool := decide (97 ≤ x ∧ x ≤ 122)
def isD (x : Int32) : Bool := decide (48 ≤ x ∧ x ≤ 57)
def PS (g : Nat → Int32) (n k : Nat) : Bool := decide (k < n ∧ g k = 32)
def PL (g : Nat → Int32) (n k : Nat) : Bool := decide (k < n ∧ isL (g k) = true)
def PD (g : Nat → Int32) (n k : Nat) : Bool := decide (k < n ∧ isD (g k) = true)
def SK (g : Nat → Int32) (n i : Nat) : Nat := AD (PS g n) i
def LT (g : Nat → Int32) (n i : Nat) : Nat := AD (PL g n) i
def DT (g : Nat → Int32) (n i : Nat) : Nat := AD (PD g n) i
section TOK
variable {g : Nat → Int32} {n i j k : Nat}
theorem SK_s (hij : i ≤ j) (hj : j ≤ 1000) (h : ∀ k, i ≤ k → k < j → k < n ∧ g k = 32) (hn : ¬ (j < n ∧ g j = 32)) : SK g n i = j := AD_s hij hj (fun k a b => decide_eq_true (h k a b)) (fun z => hn (of_decide_eq_true z))
theorem LT_s (hij : i ≤ j) (hj : j ≤ 1000) (h : ∀ k, i ≤ k → k < j → k < n ∧ isL (g k) = true) (hn : ¬ (j < n ∧ isL (g j) = true)) : LT g n i = j := AD_s hij hj (fun k a b => decide_eq_true (h k a b)) (fun z => hn (of_decide_eq_true z))
theorem DT_s (hij : i ≤ j) (hj : j ≤ 1000) (h : ∀ k, i ≤ k → k < j → k < n ∧ isD (g k) = true) (hn : ¬ (j < n ∧ isD (g j) = true)) : DT g n i = j := AD_s hij hj (fun k a b => decide_eq_true (h k a b)) (fun z => hn (of_decide_eq_true z))
theorem SK_ge : i ≤ SK g n i := AD_ge
theorem SK_le (hi : i ≤ n) : SK g n i ≤ n := adv_bd (fun k hk z => by have z := of_decide_eq_true z; omega) 2000 i hi
theorem LT_ge : i ≤ LT g n i := AD_ge
theorem LT_le (hi : i ≤ n) : LT g n i ≤ n := adv_bd (fun k hk z => by have z := of_decide_eq_true z; omega) 2000 i hi
theorem DT_ge : i ≤ DT g n i := AD_ge
theorem DT_le (hi : i ≤ n) : DT g n i ≤ n := adv_bd (fun k hk z => by have z := of_decide_eq_true z; omega) 2000 i hi
theorem LT_in (h1 : i ≤ k) (h2 : k < LT g n i) : isL (g k) = true := (of_decide_eq_true (AD_in (P := PL g n) h1 h2)).2
theorem DT_in (h1 : i ≤ k) (h2 : k < DT g n i) : isD (g k) = true := (of_decide_eq_true (AD_in (P := PD g n) h1 h2)).2
theorem LT_nx (h : i < n) (hl : isL (g i) = true) (hn : n ≤ 1000) : i + 1 ≤ LT g n i := by
  have e := LT_ge (g := g) (n := n) (i := i)
  by_cases q : LT g n i = i
  · have z := adv_en (P := PL g n) (n := n) (fun k hk z => by have z := of_decide_eq_true z; omega) 2000 i (by omega)
    have z : ¬ PL g n (LT g n i) = true := z
    rw [q] at z
    exact absurd (decide_eq_true ⟨h, hl⟩) z
  · omega
theorem DT_nx (h : i < n) (hl : isD (g i) = true) (hn : n ≤ 1000) : i + 1 ≤ DT g n i := by
  have e := DT_ge (g := g) (n := n) (i := i)
  by_cases q : DT g n i = i
  · have z := adv_en (P := PD g n) (n := n) (fun k hk z => by have z := of_decide_eq_true z; omega) 2000 i (by omega)
    have z : ¬ PD g n (DT g n i) = true := z
    rw [q] at z
    exact absurd (decide_eq_true ⟨h, hl⟩) z
  · omega
end TOK
/-- the word w (party, kind, trade, keep, cap, mode) stands at i with l letters -/
abbrev KW (g : Nat → Int32) (i l w : Nat) : Prop := l = lenJS.getD w 0 ∧ ∀ j, j < l → g (i + j) = (bytJS.getD w []).getD j 0
theorem KW_u {g : Nat → Int32} {i l v w : Nat} (hv : v < 6) (hw : w < 6) (h1 : KW g i l v) (h2 : KW g i l w) : v = w := by
  by_cases e : v = w
  · exact e
  · exfalso
    have hl : lenJS.getD v 0 = lenJS.getD w 0 := h1.1.symm.trans h2.1
    have key : ∀ v, v < 6 → ∀ w, w < 6 → v ≠ w → lenJS.getD v 0 = lenJS.getD w 0 → ∃ j, j < lenJS.getD v 0 ∧ (bytJS.getD v []).getD j 0 ≠ (bytJS.getD w []).getD j 0 := by decide
    obtain ⟨j, hj, hne⟩ := key v hv w hw e hl
    have hj : j < l := by rw [h1.1]; exact hj
    exact hne ((h1.2 j hj).symm.trans (h2.2 j hj))
def wdx (g : Nat → Int32) (i l : Nat) : Nat := if KW g i l 0 then 0 else if KW g i l 1 then 1 else if KW g i l 2 then 2 else if KW g i l 3 then 3 else if KW g i l 4 then 4 else if KW g i l 5 then 5 else 6
section WORDS
variable {g : Nat → Int32} {n i l w p : Nat}
theorem wdx_n (h : ∀ w, w < 6 → ¬ KW g i l w) : wdx g i l = 6 := by
  unfold wdx
  rw [if_neg (h 0 (by omega)), if_neg (h 1 (by omega)), if_neg (h 2 (by omega)), if_neg (h 3 (by omega)), if_neg (h 4 (by omega)), if_neg (h 5 (by omega))]
theorem wdx_w (hw : w < 6) (h : KW g i l w) : wdx g i l = w := by
  have hn : ∀ v, v < 6 → v ≠ w → ¬ KW g i l v := fun v hv hne hk => hne (KW_u hv hw hk h)
  unfold wdx
  rcases (show w = 0 ∨ w = 1 ∨ w = 2 ∨ w = 3 ∨ w = 4 ∨ w = 5 by omega) with rfl | rfl | rfl | rfl | rfl | rfl
  · rw [if_pos h]
  · rw [if_neg (hn 0 (by omega) (by omega)), if_pos h]
  · rw [if_neg (hn 0 (by omega) (by omega)), if_neg (hn 1 (by omega) (by omega)), if_pos h]
  · rw [if_neg (hn 0 (by omega) (by omega)), if_neg (hn 1 (by omega) (by omega)), if_neg (hn 2 (by omega) (by omega)), if_pos h]
  · rw [if_neg (hn 0 (by omega) (by omega)), if_neg (hn 1 (by omega) (by omega)), if_neg (hn 2 (by omega) (by omega)), if_neg (hn 3 (by omega) (by omega)), if_pos h]
  · rw [if_neg (hn 0 (by omega) (by omega)), if_neg (hn 1 (by omega) (by omega)), if_neg (hn 2 (by omega) (by omega)), if_neg (hn 3 (by omega) (by omega)), if_neg (hn 4 (by omega) (by omega)), if_pos h]
theorem wdx_c (g : Nat → Int32) (i l : Nat) : (wdx g i l = 6 ∧ ∀ w, w < 6 → ¬ KW g i l w) ∨ (wdx g i l < 6 ∧ KW g i l (wdx g i l)) := by
  by_cases h : ∃ w, w < 6 ∧ KW g i l w
  · obtain ⟨w, hw, hk⟩ := h
    rw [wdx_w hw hk]
    exact Or.inr ⟨hw, hk⟩
  · have h2 : ∀ w, w < 6 → ¬ KW g i l w := fun w hw hk => h ⟨w, hw, hk⟩
    exact Or.inl ⟨wdx_n h2, h2⟩
/-- the token behind p: 0 the end, 1 another sign, 2 a semicolon, 3 a number, 4 a name, 5 .. 10 the words -/
def tkc (g : Nat → Int32) (n p : Nat) : Nat := if SK g n p < n then (if isL (g (SK g n p)) = true then (if wdx g (SK g n p) (LT g n (SK g n p) - SK g n p) < 6 then 5 + wdx g (SK g n p) (LT g n (SK g n p) - SK g n p) else if LT g n (SK g n p) - SK g n p ≤ 8 then 4 else 1) else if isD (g (SK g n p)) = true then 3 else if g (SK g n p) = 59 then 2 else 1) else 0
def tke (g : Nat → Int32) (n p : Nat) : Nat := if SK g n p < n then (if isL (g (SK g n p)) = true then LT g n (SK g n p) else if isD (g (SK g n p)) = true then DT g n (SK g n p) else SK g n p + 1) else SK g n p
theorem tk_end (h : ¬ SK g n p < n) : tkc g n p = 0 ∧ tke g n p = SK g n p := by
  unfold tkc tke
  rw [if_neg h, if_neg h]
  exact ⟨rfl, rfl⟩
theorem tk_word (h : SK g n p < n) (hl : isL (g (SK g n p)) = true) (hw : w < 6) (hk : KW g (SK g n p) (LT g n (SK g n p) - SK g n p) w) : tkc g n p = 5 + w ∧ tke g n p = LT g n (SK g n p) := by
  unfold tkc tke
  rw [if_pos h, if_pos h, if_pos hl, if_pos hl, wdx_w hw hk, if_pos hw]
  exact ⟨rfl, rfl⟩
theorem tk_name (h : SK g n p < n) (hl : isL (g (SK g n p)) = true) (hk : ∀ w, w < 6 → ¬ KW g (SK g n p) (LT g n (SK g n p) - SK g n p) w) : tkc g n p = (if LT g n (SK g n p) - SK g n p ≤ 8 then 4 else 1) ∧ tke g n p = LT g n (SK g n p) := by
  unfold tkc tke
  rw [if_pos h, if_pos h, if_pos hl, if_pos hl, wdx_n hk, if_neg (by omega)]
  exact ⟨rfl, rfl⟩
theorem tk_num (h : SK g n p < n) (hl : ¬ isL (g (SK g n p)) = true) (hd : isD (g (SK g n p)) = true) : tkc g n p = 3 ∧ tke g n p = DT g n (SK g n p) := by
  unfold tkc tke
  rw [if_pos h, if_pos h, if_neg hl, if_neg hl, if_pos hd, if_pos hd]
  exact ⟨rfl, rfl⟩
theorem tk_sign (h : SK g n p < n) (hl : ¬ isL (g (SK g n p)) = true) (hd : ¬ isD (g (SK g n p)) = true) : tkc g n p = (if g (SK g n p) = 59 then 2 else 1) ∧ tke g n p = SK g n p + 1 := by
  unfold tkc tke
  rw [if_pos h, if_pos h, if_neg hl, if_neg hl, if_neg hd, if_neg hd]
  exact ⟨rfl, rfl⟩
theorem tke_b (hp : p ≤ n) (hn : n ≤ 1000) : SK g n p ≤ tke g n p ∧ tke g n p ≤ n ∧ (SK g n p < n → SK g n p < tke g n p) := by
  have h1 := SK_le (g := g) hp
  unfold tke
  by_cases h : SK g n p < n
  · rw [if_pos h]
    by_cases hl : isL (g (SK g n p)) = true
    · rw [if_pos hl]
      have a := LT_nx h hl hn
      have b := LT_le (g := g) (i := SK g n p) h1
      exact ⟨by omega, b, fun _ => by omega⟩
    · rw [if_neg hl]
      by_cases hd : isD (g (SK g n p)) = true
      · rw [if_pos hd]
        have a := DT_nx h hd hn
        have b := DT_le (g := g) (i := SK g n p) h1
        exact ⟨by omega, b, fun _ => by omega⟩
      · rw [if_neg hd]
        exact ⟨by omega, by omega, fun _ => by omega⟩
  · rw [if_neg h]
    exact ⟨Nat.le_refl _, h1, fun z => absurd z h⟩
end WORDS
/-- two names are the same -/
abbrev EQ9 (g : Nat → Int32) (a l b m : Nat) : Prop := l = m ∧ ∀ j, j < l → g (a + j) = g (b + j)
/-- the first of the names from o on that is the one at a; num: none -/
def FN (g : Nat → Int32) (df : Nat → Nat × Nat) (o num a l : Nat) : Nat := AD (fun k => decide (k < num ∧ ¬ EQ9 g (df (o + k)).1 (df (o + k)).2 a l)) 0
theorem FN_s {g : Nat → Int32} {df : Nat → Nat × Nat} {o num a l k : Nat} (hk : k ≤ num) (hn : num ≤ 12) (h : ∀ j, j < k → ¬ EQ9 g (df (o + j)).1 (df (o + j)).2 a l) (he : k = num ∨ EQ9 g (df (o + k)).1 (df (o + k)).2 a l) : FN g df o num a l = k := AD_s (Nat.zero_le _) (by omega) (fun j _ hj => decide_eq_true ⟨by omega, h j hj⟩) (fun z => by
  have z := of_decide_eq_true z
  rcases he with e | e
  · omega
  · exact z.2 e)
/-- a number's value -/
def NV (g : Nat → Int32) (a : Nat) : Nat → Nat
  | 0 => 0
  | l + 1 => 10 * NV g a l + ((g (a + l)).toInt.toNat - 48)
theorem isD_b {x : Int32} (h : isD x = true) : 48 ≤ x.toInt ∧ x.toInt ≤ 57 := by
  have h := of_decide_eq_true h
  rw [Int32.le_iff_toInt_le, Int32.le_iff_toInt_le] at h
  have e1 : (48 : Int32).toInt = 48 := by decide
  have e2 : (57 : Int32).toInt = 57 := by decide
  omega
theorem isL_b {x : Int32} (h : isL x = true) : 97 ≤ x.toInt ∧ x.toInt ≤ 122 := by
  have h := of_decide_eq_true h
  rw [Int32.le_iff_toInt_le, Int32.le_iff_toInt_le] at h
  have e1 : (97 : Int32).toInt = 97 := by decide
  have e2 : (122 : Int32).toInt = 122 := by decide
  omega
theorem NV_b {g : Nat → Int32} {a : Nat} : ∀ l, (∀ j, j < l → isD (g (a + j)) = true) → NV g a l < 10 ^ l
  | 0, _ => by show 0 < 10 ^ 0; decide
  | l + 1, h => by
    have ih := NV_b l (fun j hj => h j (by omega))
    have hb := isD_b (h l (by omega))
    show 10 * NV g a l + ((g (a + l)).toInt.toNat - 48) < 10 ^ (l + 1)
    rw [Nat.pow_succ]
    omega
/-- an error: what stands first stays -/
def ERR (wr wa : Int32) (c q : Nat) (wr' wa' : Int32) : Prop := (wr ≠ 0 → wr' = wr ∧ wa' = wa) ∧ (wr = 0 → wr' = nI c ∧ (c ≠ 0 → wa' = nI q) ∧ (c = 0 → wa' = wa))
theorem ERR_0 {wr wa : Int32} {q : Nat} : ERR wr wa 0 q wr wa := ⟨fun _ => ⟨rfl, rfl⟩, fun h => ⟨h, fun z => absurd rfl z, fun _ => rfl⟩⟩
theorem ERR_z {wr wa wr' wa' : Int32} {c q : Nat} (h : ERR wr wa c q wr' wa') (h0 : wr = 0) (hc : c = 0) : wr' = 0 ∧ wa' = wa := by
  obtain ⟨e1, -, e3⟩ := h.2 h0
  subst hc
  exact ⟨e1, e3 rfl⟩
theorem ERR_n {wr wa wr' wa' : Int32} {c q : Nat} (h : ERR wr wa c q wr' wa') (h0 : wr = 0) (hc : c ≠ 0) (hb : c < 100) : wr' ≠ 0 ∧ wr' = nI c ∧ wa' = nI q := by
  obtain ⟨e1, e2, -⟩ := h.2 h0
  exact ⟨by rw [e1]; exact nI_ne0 (by omega) (by omega), e1, e2 hc⟩
/-- of two errors the first -/
def fe (a b : Nat × Nat) : Nat × Nat := if a.1 = 0 then b else a
theorem ERR_t {wr wa wr1 wa1 wr2 wa2 : Int32} {c1 q1 : Nat} {b : Nat × Nat} (hb : c1 < 100) (h1 : ERR wr wa c1 q1 wr1 wa1) (hk : wr1 ≠ 0 → wr2 = wr1 ∧ wa2 = wa1) (h2 : wr = 0 → c1 = 0 → ERR wr1 wa1 b.1 b.2 wr2 wa2) : ERR wr wa (fe (c1, q1) b).1 (fe (c1, q1) b).2 wr2 wa2 := by
  refine ⟨fun h => ?_, fun h => ?_⟩
  · obtain ⟨e1, e2⟩ := h1.1 h
    obtain ⟨e3, e4⟩ := hk (by rw [e1]; exact h)
    exact ⟨e3.trans e1, e4.trans e2⟩
  · by_cases hc : c1 = 0
    · obtain ⟨e1, e2⟩ := ERR_z h1 h hc
      have h3 := (h2 h hc).2 e1
      have ef : fe (c1, q1) b = b := if_pos hc
      rw [ef]
      exact ⟨h3.1, h3.2.1, fun z => (h3.2.2 z).trans e2⟩
    · obtain ⟨e1, e2, e3⟩ := ERR_n h1 h hc hb
      obtain ⟨e4, e5⟩ := hk e1
      have ef : fe (c1, q1) b = (c1, q1) := if_neg hc
      rw [ef]
      exact ⟨e4.trans e2, fun _ => e5.trans e3, fun z => absurd z hc⟩

