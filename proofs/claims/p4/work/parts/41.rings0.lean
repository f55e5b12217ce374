/-! What is pure of the reference's rings: bits, ways, no ring, ranks. (bt .. b_sshr: kit/laws/BITS) -/
def bt (x : Int32) (i : Nat) : Bool := x.toBitVec.getLsbD i
theorem b_ext {x y : Int32} (h : ∀ i, i < 32 → bt x i = bt y i) : x = y := Int32.toBitVec_inj.mp (BitVec.eq_of_getLsbD_eq (fun i hi => h i hi))
theorem b_or (x y : Int32) (i : Nat) : bt (x ||| y) i = (bt x i || bt y i) := by unfold bt; rw [Int32.toBitVec_or, BitVec.getLsbD_or]
theorem b_and (x y : Int32) (i : Nat) : bt (x &&& y) i = (bt x i && bt y i) := by unfold bt; rw [Int32.toBitVec_and, BitVec.getLsbD_and]
theorem b_big {x : Int32} {i : Nat} (h : 32 ≤ i) : bt x i = false := BitVec.getLsbD_of_ge _ _ h
theorem b_0 (i : Nat) : bt 0 i = false := BitVec.getLsbD_zero
theorem s_l : ∀ n, n < 32 → ((nI n &&& 31).toBitVec.smod 32).toNat = n := by decide +kernel
theorem b_shl (n : Nat) (hn : n < 32) (x : Int32) {i : Nat} (hi : i < 32) : bt (x <<< (nI n &&& 31)) i = (decide (n ≤ i) && bt x (i - n)) := by
  unfold bt
  rw [Int32.toBitVec_shiftLeft]
  show (x.toBitVec <<< ((nI n &&& 31).toBitVec.smod 32).toNat).getLsbD i = _
  rw [s_l n hn, BitVec.getLsbD_shiftLeft]
  rcases Nat.lt_or_ge i n with h | h
  · simp [h, Nat.not_le.mpr h]
  · simp [hi, h, Nat.not_lt.mpr h]
theorem b_sshr (n : Nat) (hn : n < 32) (x : Int32) {i : Nat} (hi : i < 32) : bt (x >>> (nI n &&& 31)) i = if n + i < 32 then bt x (n + i) else bt x 31 := by
  unfold bt
  rw [Int32.toBitVec_shiftRight]
  show (x.toBitVec.sshiftRight ((nI n &&& 31).toBitVec.smod 32).toNat).getLsbD i = _
  rw [s_l n hn, BitVec.getLsbD_sshiftRight, BitVec.msb_eq_getLsbD_last]
  simp [hi]
theorem b_1 : ∀ i, i < 32 → bt 1 i = decide (i = 0) := by decide +kernel
theorem sb_f {so y z : Int32} {p : Nat} (hp : p < 8) (ez : z = so >>> (nI p &&& 31)) (ey : y = z &&& 1) (h : ¬ y = 1) : bt so p = false := by
  by_cases q : bt so p = true
  · refine absurd (b_ext (fun i hi => ?_)) h
    rw [ey, b_and, b_1 i hi, ez, b_sshr p (by omega) so hi]
    by_cases c : i = 0
    · subst c
      rw [if_pos (by omega), Nat.add_zero, q]
      rfl
    · rw [decide_eq_false c, Bool.and_false]
  · exact Bool.eq_false_iff.mpr q
theorem sb_t {so y z : Int32} {p : Nat} (hp : p < 8) (ez : z = so >>> (nI p &&& 31)) (ey : y = z &&& 1) (h : y = 1) : bt so p = true := by
  have q : bt y 0 = true := by rw [h]; decide
  rw [ey, b_and, ez, b_sshr p (by omega) so (by omega), if_pos (by omega), Nat.add_zero, Bool.and_eq_true] at q
  exact q.1
theorem sb_1 {z : Int32} {p q : Nat} (hp : p < 8) (hq : q < 8) (ez : z = 1 <<< (nI p &&& 31)) : bt z q = true ↔ q = p := by
  rw [ez, b_shl p (by omega) 1 (by omega), Bool.and_eq_true, decide_eq_true_iff]
  rw [b_1 (q - p) (by omega), decide_eq_true_iff]
  omega
theorem sb_o {so z o2 : Int32} {p q : Nat} (hp : p < 8) (hq : q < 8) (ez : z = 1 <<< (nI p &&& 31)) (eo : o2 = so ||| z) : bt o2 q = true ↔ (bt so q = true ∨ q = p) := by
  rw [eo, b_or, Bool.or_eq_true, sb_1 hp hq ez]
/-- what a place of the way holds, as a Nat -/
def wa (f : Nat → Int32) (i : Nat) : Nat := (f i).toNatClampNeg
theorem wa_n {f : Nat → Int32} {i k : Nat} (h : f i = nI k) (hk : k < 2 ^ 31) : wa f i = k := by unfold wa; rw [h, nI_clamp hk]
theorem wa_c {f g : Nat → Int32} {i : Nat} (h : f i = g i) : wa f i = wa g i := by unfold wa; rw [h]
def NR (F : Nat → Int32) (pa w0 : Nat) : Nat → Nat → (Nat → Prop) → Prop
  | 0, last, _ => ¬ 0 < F (8 * last + w0)
  | n + 1, last, sn => ∀ p, w0 < p → p < pa → ¬ sn p → F (8 * last + p) ≠ 0 → NR F pa w0 n p (fun q => sn q ∨ q = p)
theorem NR_m {F : Nat → Int32} {pa w0 : Nat} (hpa : pa ≤ 8) : ∀ (n last : Nat) (sn sn' : Nat → Prop), (∀ q, q < 8 → sn q → sn' q) → NR F pa w0 n last sn → NR F pa w0 n last sn'
  | 0, _, _, _, _, h => h
  | n + 1, _, _, _, hs, h => fun p h1 h2 h3 h4 => NR_m hpa n p _ _ (fun q hq => Or.imp_left (hs q hq)) (h p h1 h2 (fun z => h3 (hs p (by omega) z)) h4)
theorem NR_k {F : Nat → Int32} {pa w0 m n last : Nat} {sn : Nat → Prop} (hm : m = n + 1) (h : ∀ p, w0 < p → p < pa → ¬ sn p → F (8 * last + p) ≠ 0 → NR F pa w0 n p (fun q => sn q ∨ q = p)) : NR F pa w0 m last sn := by
  subst hm
  exact h
theorem NR_z {F : Nat → Int32} {pa w0 m last : Nat} {sn : Nat → Prop} (hm : m = 0) (h : ¬ 0 < F (8 * last + w0)) : NR F pa w0 m last sn := by
  subst hm
  exact h
def RNG (F W : Nat → Int32) (k mn : Nat) : Prop := (∀ i, k ≤ i + 1 → i + 1 < mn → F (8 * wa W i + wa W (i + 1)) ≠ 0) ∧ 0 < F (8 * wa W (mn - 1) + wa W 0) ∧ ∀ i j, i < j → k ≤ j → j < mn → wa W i ≠ wa W j
/-- all that is laid is marked -/
def SN (W : Nat → Int32) (so : Int32) (k : Nat) : Prop := ∀ i, i < k → bt so (wa W i) = true
theorem SN_s {W W1 : Nat → Int32} {so z o2 : Int32} {k p : Nat} (h : SN W so k) (hw : ∀ i, i < k → W1 i = W i) (hwb : ∀ i, i < k → wa W i < 8) (hk : wa W1 k = p) (hp : p < 8) (ez : z = 1 <<< (nI p &&& 31)) (eo : o2 = so ||| z) : SN W1 o2 (k + 1) := fun i hi => by
  by_cases e : i = k
  · rw [e, hk]
    exact (sb_o hp hp ez eo).mpr (Or.inr rfl)
  · rw [wa_c (hw i (by omega))]
    exact (sb_o hp (hwb i (by omega)) ez eo).mpr (Or.inl (h i (by omega)))
theorem RNG_s {F W W0 : Nat → Int32} {so : Int32} {k mn p last : Nat} (h : RNG F W (k + 1) mn) (hk : 1 ≤ k) (hkm : k < mn) (hW : ∀ i, i < k → W i = W0 i) (hp : wa W k = p) (hl : wa W (k - 1) = last) (hs : SN W0 so k) (hb : bt so p = false) (hF : F (8 * last + p) ≠ 0) : RNG F W k mn := by
  refine ⟨fun i h1 h2 => ?_, h.2.1, fun i j h1 h2 h3 => ?_⟩
  · by_cases e : k = i + 1
    · subst e
      rw [Nat.add_sub_cancel] at hl
      rw [hl, hp]
      exact hF
    · exact h.1 i (by omega) h2
  · by_cases e : j = k
    · subst e
      rw [hp, wa_c (hW i h1)]
      intro z
      have q := hs i h1
      rw [z, hb] at q
      exact absurd q (by decide)
    · exact h.2.2 i j h1 (by omega) h3
theorem RNG_0 {F W : Nat → Int32} {k : Nat} (h : 0 < F (8 * wa W (k - 1) + wa W 0)) : RNG F W k k := ⟨fun i _ _ => by omega, h, fun i j _ _ _ => by omega⟩
def noring (F : Nat → Int32) (pa : Nat) : Prop := ∀ mn p, 2 ≤ mn → mn ≤ pa → p < pa → NR F pa p (mn - 1) p (fun q => q = p)
def cpl (W : Nat → Int32) (n i : Nat) : Nat := 8 * wa W i + wa W ((i + 1) % n)
def nzc (F : Nat → Int32) : Nat := cnt (fun j => decide (F j ≠ 0)) 64
section RINGS
variable {F W : Nat → Int32} {n : Nat}
theorem RNG_nz (h : RNG F W 1 n) (hn : 2 ≤ n) {i : Nat} (hi : i < n) : F (cpl W n i) ≠ 0 := by
  unfold cpl
  by_cases e : i + 1 < n
  · rw [Nat.mod_eq_of_lt e]
    exact h.1 i (by omega) e
  · have e2 : i + 1 = n := by omega
    rw [e2, Nat.mod_self, show i = n - 1 from by omega]
    intro z
    have q := h.2.1
    rw [z] at q
    exact absurd q (by decide)
theorem cpl_b (hw : ∀ i, i < 8 → wa W i < 8) (hn : n ≤ 8) {i : Nat} (hi : i < n) : cpl W n i < 64 := by
  have h1 := hw i (by omega)
  have h2 := hw ((i + 1) % n) (Nat.lt_of_lt_of_le (Nat.mod_lt _ (by omega)) hn)
  unfold cpl
  omega
theorem RNG_ne (h : RNG F W 1 n) (hw : ∀ i, i < 8 → wa W i < 8) (hn : n ≤ 8) {i j : Nat} (hij : i ≠ j) (hi : i < n) (hj : j < n) : cpl W n i ≠ cpl W n j := by
  have hd : wa W i ≠ wa W j := by
    by_cases c : i < j
    · exact h.2.2 i j c (by omega) hj
    · exact fun z => h.2.2 j i (by omega) (by omega) hi z.symm
  have h1 := hw ((i + 1) % n) (Nat.lt_of_lt_of_le (Nat.mod_lt _ (by omega)) hn)
  have h2 := hw ((j + 1) % n) (Nat.lt_of_lt_of_le (Nat.mod_lt _ (by omega)) hn)
  unfold cpl
  omega
/-- the ring's couples less one of their flows -/
def RGO (F G : Nat → Int32) (W : Nat → Int32) (n i : Nat) (x : Int32) : Prop := (∀ j, j < i → G (cpl W n j) = F (cpl W n j) - x) ∧ ∀ k, (∀ j, j < i → k ≠ cpl W n j) → G k = F k
theorem RGO_0 {x : Int32} : RGO F F W n 0 x := ⟨fun j h => absurd h (Nat.not_lt_zero _), fun _ _ => rfl⟩
theorem RGO_s {G G1 : Nat → Int32} {x y z : Int32} {i c : Nat} (h : RGO F G W n i x) (hR : RNG F W 1 n) (hw : ∀ i, i < 8 → wa W i < 8) (hn : n ≤ 8) (hi : i < n) (hc : c = cpl W n i) (ey : y = G (nI c).toNatClampNeg) (ez : z = y - x) (e : G1 = upd G (nI c).toNatClampNeg z) : RGO F G1 W n (i + 1) x := by
  have hcb := cpl_b hw hn hi
  rw [nI_clamp (by omega)] at ey e
  subst hc
  have hy : y = F (cpl W n i) := ey.trans (h.2 _ (fun j hj => RNG_ne hR hw hn (by omega) hi (by omega)))
  subst e ez hy
  refine ⟨fun j hj => ?_, fun k hk => ?_⟩
  · by_cases q : j = i
    · rw [q, pk_us]
    · rw [pk_un (RNG_ne hR hw hn q (by omega) hi)]
      exact h.1 j (by omega)
  · rw [pk_un (hk i (by omega))]
    exact h.2 k (fun j hj => hk j (by omega))
theorem RGO_z {G : Nat → Int32} {x : Int32} (h : RGO F G W n n x) (hR : RNG F W 1 n) (hn : 2 ≤ n) {j : Nat} (hj : F j = 0) : G j = 0 := by
  rw [h.2 j (fun i hi z => RNG_nz hR hn hi (by rw [← z]; exact hj))]
  exact hj
theorem RGO_c {G : Nat → Int32} {x : Int32} {i : Nat} (h : RGO F G W n n x) (hR : RNG F W 1 n) (hn : 2 ≤ n) (hi : i < n) (hx : x = F (cpl W n i)) (hw : ∀ i, i < 8 → wa W i < 8) (hn8 : n ≤ 8) : nzc G < nzc F := by
  refine cnt_lt (w := cpl W n i) 64 (cpl_b hw hn8 hi) (fun u _ hu => ?_) ?_ (decide_eq_true (RNG_nz hR hn hi))
  · have hu := of_decide_eq_true hu
    exact decide_eq_true (fun z => hu (RGO_z h hR hn z))
  · intro z
    have z := of_decide_eq_true z
    apply z
    rw [h.1 i hi, hx, Int32.sub_self]
end RINGS
/-! no ring: a rank -/
section RANK
variable {F : Nat → Int32} {pa : Nat}
theorem NR_use {c : Nat → Nat} {n : Nat} (hpa : pa ≤ 8) (hc : ∀ i, i < n → c i < pa) (he : ∀ i, i + 1 < n → 0 < F (8 * c i + c (i + 1))) (hz : 0 < F (8 * c (n - 1) + c 0)) (hd : ∀ i j, i < j → j < n → c i ≠ c j) (hm : ∀ i, 0 < i → i < n → c 0 < c i) : ∀ (r k : Nat), k + r + 1 = n → ¬ NR F pa (c 0) r (c k) (fun q => ∃ i, i ≤ k ∧ q = c i)
  | 0, k, hk, h => h (by rw [show k = n - 1 from by omega]; exact hz)
  | r + 1, k, hk, h => by
    have h1 := h (c (k + 1)) (hm (k + 1) (by omega) (by omega)) (hc (k + 1) (by omega)) (fun z => by
      obtain ⟨i, hi, e⟩ := z
      exact hd i (k + 1) (by omega) (by omega) e.symm) (fun z => by
      have q := he k (by omega)
      rw [z] at q
      exact absurd q (by decide))
    refine NR_use hpa hc he hz hd hm r (k + 1) (by omega) (NR_m hpa r _ _ _ (fun q _ hq => ?_) h1)
    rcases hq with ⟨i, hi, e⟩ | e
    · exact ⟨i, by omega, e⟩
    · exact ⟨k + 1, Nat.le_refl _, e⟩
theorem ex_min (c : Nat → Nat) : ∀ n, 0 < n → ∃ m, m < n ∧ ∀ i, i < n → c m ≤ c i
  | 0, h => absurd h (Nat.lt_irrefl _)
  | 1, _ => ⟨0, by omega, fun i hi => by rw [show i = 0 from by omega]; exact Nat.le_refl _⟩
  | n + 2, _ => by
    obtain ⟨m, hm, h⟩ := ex_min c (n + 1) (by omega)
    by_cases q : c m ≤ c (n + 1)
    · exact ⟨m, by omega, fun i hi => by
        by_cases e : i = n + 1
        · rw [e]; exact q
        · exact h i (by omega)⟩
    · exact ⟨n + 1, by omega, fun i hi => by
        by_cases e : i = n + 1
        · rw [e]; exact Nat.le_refl _
        · have := h i (by omega)
          omega⟩
theorem php : ∀ (pa n : Nat) (c : Nat → Nat), (∀ i, i < n → c i < pa) → (∀ i j, i < j → j < n → c i ≠ c j) → n ≤ pa
  | 0, n, c, h, _ => by
    by_cases q : n = 0
    · omega
    · have := h 0 (by omega)
      omega
  | pa + 1, n, c, h, hd => by
    by_cases q : ∃ i, i < n ∧ c i = pa
    · obtain ⟨i0, hi0, e0⟩ := q
      have := php pa (n - 1) (fun k => if k < i0 then c k else c (k + 1)) (fun i hi => by
        show (if i < i0 then c i else c (i + 1)) < pa
        by_cases t : i < i0
        · rw [if_pos t]
          have h1 := h i (by omega)
          have h2 := hd i i0 t hi0
          omega
        · rw [if_neg t]
          have h1 := h (i + 1) (by omega)
          have h2 := hd i0 (i + 1) (by omega) (by omega)
          omega) (fun i j hij hj => by
        show (if i < i0 then c i else c (i + 1)) ≠ (if j < i0 then c j else c (j + 1))
        by_cases t : i < i0 <;> by_cases t2 : j < i0
        · rw [if_pos t, if_pos t2]; exact hd i j hij (by omega)
        · rw [if_pos t, if_neg t2]; exact hd i (j + 1) (by omega) (by omega)
        · omega
        · rw [if_neg t, if_neg t2]; exact hd (i + 1) (j + 1) (by omega) (by omega))
      omega
    · have := php pa n c (fun i hi => by
        have h1 := h i hi
        have h2 : c i ≠ pa := fun z => q ⟨i, hi, z⟩
        omega) hd
      omega
def PE (F : Nat → Int32) (pa p q : Nat) : Prop := p < pa ∧ q < pa ∧ 0 < F (8 * p + q)
def WK (F : Nat → Int32) (pa p q n : Nat) : Prop := ∃ c : Nat → Nat, c 0 = p ∧ c n = q ∧ ∀ i, i < n → PE F pa (c i) (c (i + 1))
theorem no_cyc (hpa : pa ≤ 8) (hN : noring F pa) (hz : ∀ a, a < 8 → F (8 * a + a) = 0) : ∀ (N n : Nat), n ≤ N → 0 < n → ∀ q, ¬ WK F pa q q n := by
  intro N
  induction N with
  | zero => intro n h1 h2; omega
  | succ N ih =>
    intro n h1 h2 q ⟨c, c0, cn, hc⟩
    by_cases hr : ∃ i j, i < j ∧ j < n ∧ c i = c j
    · obtain ⟨i, j, hij, hj, e⟩ := hr
      refine ih (j - i) (by omega) (by omega) (c i) ⟨fun k => c (i + k), rfl, ?_, fun k hk => hc (i + k) (by omega)⟩
      show c (i + (j - i)) = c i
      rw [show i + (j - i) = j from by omega]
      exact e.symm
    · have hd : ∀ i j, i < j → j < n → c i ≠ c j := fun i j a b z => hr ⟨i, j, a, b, z⟩
      have hcn : c n = c 0 := cn.trans c0.symm
      have hlt : ∀ i, i < n → c i < pa := fun i hi => (hc i hi).1
      have hn2 : 2 ≤ n := by
        by_cases z : n = 1
        · subst z
          have q1 := hc 0 (by omega)
          rw [hcn] at q1
          have q2 := q1.2.2
          rw [hz _ (by have := q1.1; omega)] at q2
          exact absurd q2 (by decide)
        · omega
      have hnp := php pa n c hlt hd
      obtain ⟨m, hm, hmin⟩ := ex_min c n h2
      have key : ∀ k, k < n → ∀ (x : Nat), x = (if m + k < n then m + k else m + k - n) → x < n := fun k hk x hx => by
        rw [hx]
        by_cases t : m + k < n
        · rw [if_pos t]; exact t
        · rw [if_neg t]; omega
      have d0 : c (if m + 0 < n then m + 0 else m + 0 - n) = c m := by
        rw [if_pos (by omega), Nat.add_zero]
      refine NR_use (F := F) (c := fun k => c (if m + k < n then m + k else m + k - n)) (n := n) hpa (fun i hi => hlt _ (key i hi _ rfl)) (fun i hi => ?_) ?_ (fun i j hij hj z => ?_) (fun i h0 hi => ?_) (n - 1) 0 (by omega) ?_
      · show 0 < F (8 * c (if m + i < n then m + i else m + i - n) + c (if m + (i + 1) < n then m + (i + 1) else m + (i + 1) - n))
        by_cases t : m + i + 1 < n
        · rw [if_pos (by omega), if_pos (by omega)]
          exact (hc (m + i) (by omega)).2.2
        · by_cases t2 : m + i < n
          · rw [if_pos t2, if_neg (by omega), show m + (i + 1) - n = 0 from by omega, ← hcn, show n = m + i + 1 from by omega]
            exact (hc (m + i) (by omega)).2.2
          · rw [if_neg t2, if_neg (by omega), show m + (i + 1) - n = m + i - n + 1 from by omega]
            exact (hc (m + i - n) (by omega)).2.2
      · show 0 < F (8 * c (if m + (n - 1) < n then m + (n - 1) else m + (n - 1) - n) + c (if m + 0 < n then m + 0 else m + 0 - n))
        by_cases t : m = 0
        · rw [if_pos (by omega), if_pos (by omega), t, Nat.zero_add, ← hcn]
          have q1 := (hc (n - 1) (by omega)).2.2
          rw [show n - 1 + 1 = n from by omega] at q1
          exact q1
        · rw [if_neg (by omega), if_pos (by omega), show m + (n - 1) - n = m - 1 from by omega]
          have q1 := (hc (m - 1) (by omega)).2.2
          rw [show m - 1 + 1 = m from by omega] at q1
          exact q1
      · have z : c (if m + i < n then m + i else m + i - n) = c (if m + j < n then m + j else m + j - n) := z
        by_cases t : m + i < n <;> by_cases t2 : m + j < n
        · rw [if_pos t, if_pos t2] at z
          exact hd _ _ (by omega) t2 z
        · rw [if_pos t, if_neg t2] at z
          exact hd _ _ (by omega) t z.symm
        · omega
        · rw [if_neg t, if_neg t2] at z
          exact hd _ _ (by omega) (by omega) z
      · rw [d0]
        show c m < c (if m + i < n then m + i else m + i - n)
        by_cases t : m + i < n
        · rw [if_pos t]
          have q1 := hmin (m + i) t
          have q2 := hd m (m + i) (by omega) t
          omega
        · rw [if_neg t]
          have q1 := hmin (m + i - n) (by omega)
          have q2 := hd (m + i - n) m (by omega) hm
          omega
      · rw [d0]
        exact NR_m hpa _ _ _ _ (fun q _ hq => ⟨0, Nat.le_refl _, hq.trans d0.symm⟩) (hN n (c m) hn2 hnp (hlt m hm))
theorem cnt_all : ∀ n, cnt (fun _ => true) n = n
  | 0 => rfl
  | n + 1 => by
    show cnt (fun _ => true) n + (if true = true then 1 else 0) = n + 1
    rw [cnt_all n, if_pos rfl]
theorem rank_ex (hpa : pa ≤ 8) (hN : noring F pa) (hz : ∀ a, a < 8 → F (8 * a + a) = 0) : ∃ rk : Nat → Nat, (∀ p, p < pa → rk p < pa) ∧ ∀ p q, PE F pa p q → rk q < rk p := by
  have hno : ∀ q n, 0 < n → ¬ WK F pa q q n := fun q n h => no_cyc hpa hN hz n n (Nat.le_refl _) h q
  refine ⟨fun p => cnt (fun x => @decide (∃ n, 0 < n ∧ WK F pa p x n) (Classical.propDecidable _)) pa, fun p hp => ?_, fun p q hpq => ?_⟩
  · have h : cnt (fun x => @decide (∃ n, 0 < n ∧ WK F pa p x n) (Classical.propDecidable _)) pa < cnt (fun _ => true) pa := cnt_lt (w := p) pa hp (fun _ _ _ => rfl) (fun z => by
      obtain ⟨n, h1, h2⟩ := @of_decide_eq_true _ (Classical.propDecidable _) z
      exact hno p n h1 h2) rfl
    rw [cnt_all] at h
    exact h
  · refine cnt_lt (w := q) pa hpq.2.1 (fun u _ hu => ?_) (fun z => ?_) ?_
    · obtain ⟨n, h1, c, h2, h3, h4⟩ := @of_decide_eq_true _ (Classical.propDecidable _) hu
      refine @decide_eq_true _ (Classical.propDecidable _) ⟨n + 1, by omega, fun k => match k with | 0 => p | k + 1 => c k, rfl, h3, fun i hi => ?_⟩
      match i, hi with
      | 0, _ => show PE F pa p (c 0); rw [h2]; exact hpq
      | i + 1, hi => exact h4 i (by omega)
    · obtain ⟨n, h1, h2⟩ := @of_decide_eq_true _ (Classical.propDecidable _) z
      exact hno q n h1 h2
    · exact @decide_eq_true _ (Classical.propDecidable _) ⟨1, by omega, fun k => match k with | 0 => p | _ + 1 => q, rfl, rfl, fun i hi => by
        rw [show i = 0 from by omega]
        exact hpq⟩
end RANK

