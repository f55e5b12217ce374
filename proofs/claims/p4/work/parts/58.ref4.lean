theorem wb_tb (n : Nat) : (lN n).toBitVec = BitVec.ofNat 64 n := rfl
theorem wb_inj {a b : Int64} (h : a.toBitVec = b.toBitVec) : a = b := Int64.toBitVec_inj.mp h
theorem wb_tn {n : Nat} (h : n < 2 ^ 64) : (lN n).toBitVec.toNat = n := by rw [wb_tb, BitVec.toNat_ofNat, Nat.mod_eq_of_lt h]
theorem wb_c : ∀ k, k < 64 → ((nI k).toInt64 &&& 63) = lN k := by decide +kernel
theorem wb_sm : ∀ k, k < 64 → (BitVec.ofNat 64 k).smod 64 = BitVec.ofNat 64 k := by decide +kernel
theorem wb_shl (n : Nat) {k : Nat} (hk : k < 64) : lN n <<< ((nI k).toInt64 &&& 63) = lN (n * 2 ^ k) := by
  rw [wb_c k hk]
  apply wb_inj
  rw [Int64.toBitVec_shiftLeft, wb_tb, wb_tb, wb_tb, wb_sm k hk]
  apply BitVec.eq_of_toNat_eq
  rw [BitVec.shiftLeft_eq', BitVec.toNat_shiftLeft, BitVec.toNat_ofNat, BitVec.toNat_ofNat, BitVec.toNat_ofNat, Nat.mod_eq_of_lt (show k < 2 ^ 64 by omega), Nat.shiftLeft_eq, Nat.mul_mod, Nat.mod_mod, ← Nat.mul_mod]
theorem u_tn {n : Nat} (h : n < 2 ^ 64) : (UInt64.ofNat n).toNat = n := Nat.mod_eq_of_lt h
theorem g_or {k p a b : Nat} (hp : 2 ^ k = p) (ha : a < p) (h : b * p + a < 2 ^ 64) : lN (b * p) ||| lN a = lN (b * p + a) := by
  subst hp
  have h1 : b * 2 ^ k ||| a = b * 2 ^ k + a := by rw [← Nat.shiftLeft_eq, Nat.shiftLeft_add_eq_or_of_lt ha]
  have h3 : UInt64.ofNat (b * 2 ^ k) ||| UInt64.ofNat a = UInt64.ofNat (b * 2 ^ k + a) := UInt64.toNat_inj.mp (by rw [UInt64.toNat_or, u_tn (by omega), u_tn (by omega), u_tn h, h1])
  have h2 := congrArg UInt64.toInt64 h3
  exact h2
def encN (g : Nat → Int32) (a : Nat) : Nat → Nat
  | 0 => 0
  | l + 1 => encN g a l * 256 + (g (a + l)).toInt.toNat
def NOK (g : Nat → Int32) (a l : Nat) : Prop := 1 ≤ l ∧ l ≤ 8 ∧ ∀ j, j < l → isL (g (a + j)) = true
theorem encN_b {g : Nat → Int32} {a : Nat} : ∀ l, (∀ j, j < l → isL (g (a + j)) = true) → encN g a l < 256 ^ l
  | 0, _ => by show 0 < 256 ^ 0; decide
  | l + 1, h => by
    have ih := encN_b l (fun j hj => h j (by omega))
    have hb := isL_b (h l (by omega))
    show encN g a l * 256 + (g (a + l)).toInt.toNat < 256 ^ (l + 1)
    rw [Nat.pow_succ]
    omega
theorem enc_e {g : Nat → Int32} {a : Nat} : ∀ l, l ≤ 8 → (∀ j, j < l → isL (g (a + j)) = true) → encI g a l = lN (encN g a l)
  | 0, _, _ => rfl
  | l + 1, hl, h => by
    have ih := enc_e l (by omega) (fun j hj => h j (by omega))
    have hb := isL_b (h l (by omega))
    have he := encN_b l (fun j hj => h j (by omega))
    have hp : 256 ^ l ≤ 256 ^ 7 := Nat.pow_le_pow_right (by decide) (by omega)
    have hp7 : (256 : Nat) ^ 7 = 72057594037927936 := by decide
    have h64 : (2 : Nat) ^ 64 = 18446744073709551616 := by decide
    have hy : g (a + l) = nI (g (a + l)).toInt.toNat := by
      apply Int32.toInt_inj.mp
      rw [nI_toInt (by omega)]
      omega
    have h8 : lN (encN g a l) <<< ((8 : Int32).toInt64 &&& 63) = lN (encN g a l * 256) := wb_shl (k := 8) (encN g a l) (by decide)
    show (encI g a l <<< ((8 : Int32).toInt64 &&& 63)) ||| (g (a + l)).toInt64 = lN (encN g a l * 256 + (g (a + l)).toInt.toNat)
    have hy2 : (g (a + l)).toInt64 = lN (g (a + l)).toInt.toNat := (congrArg Int32.toInt64 hy).trans (nI_l (by omega))
    rw [ih, h8, hy2]
    exact g_or (k := 8) (p := 256) rfl (by omega) (by omega)
theorem encN_i {g : Nat → Int32} {a b : Nat} : ∀ l m, (∀ j, j < l → isL (g (a + j)) = true) → (∀ j, j < m → isL (g (b + j)) = true) → encN g a l = encN g b m → l = m ∧ ∀ j, j < l → g (a + j) = g (b + j)
  | 0, 0, _, _, _ => ⟨rfl, fun j h => absurd h (Nat.not_lt_zero _)⟩
  | 0, m + 1, _, h2, e => by
    have hb := isL_b (h2 m (by omega))
    have e : 0 = encN g b m * 256 + (g (b + m)).toInt.toNat := e
    omega
  | l + 1, 0, h1, _, e => by
    have hb := isL_b (h1 l (by omega))
    have e : encN g a l * 256 + (g (a + l)).toInt.toNat = 0 := e
    omega
  | l + 1, m + 1, h1, h2, e => by
    have hb := isL_b (h1 l (by omega))
    have hc := isL_b (h2 m (by omega))
    have e : encN g a l * 256 + (g (a + l)).toInt.toNat = encN g b m * 256 + (g (b + m)).toInt.toNat := e
    obtain ⟨i1, i2⟩ := encN_i l m (fun j hj => h1 j (by omega)) (fun j hj => h2 j (by omega)) (by omega)
    subst i1
    refine ⟨rfl, fun j hj => ?_⟩
    by_cases q : j = l
    · rw [q]
      apply Int32.toInt_inj.mp
      omega
    · exact i2 j (by omega)
theorem enc_c {g : Nat → Int32} {a b : Nat} : ∀ l, (∀ j, j < l → g (a + j) = g (b + j)) → encI g a l = encI g b l
  | 0, _ => rfl
  | l + 1, h => by
    show (encI g a l <<< ((8 : Int32).toInt64 &&& 63)) ||| (g (a + l)).toInt64 = (encI g b l <<< ((8 : Int32).toInt64 &&& 63)) ||| (g (b + l)).toInt64
    rw [enc_c l (fun j hj => h j (by omega)), h l (by omega)]
theorem enc_i {g : Nat → Int32} {a l b m : Nat} (h1 : NOK g a l) (h2 : NOK g b m) : encI g a l = encI g b m ↔ EQ9 g a l b m := by
  constructor
  · intro e
    rw [enc_e l h1.2.1 h1.2.2, enc_e m h2.2.1 h2.2.2] at e
    have hb : ∀ {a l : Nat}, NOK g a l → encN g a l < 2 ^ 64 := fun {a l} h => by
      have q := encN_b l h.2.2
      have hp : 256 ^ l ≤ 256 ^ 8 := Nat.pow_le_pow_right (by decide) h.2.1
      have hp8 : (256 : Nat) ^ 8 = 2 ^ 64 := by decide
      omega
    have e2 : encN g a l = encN g b m := by rw [← wb_tn (hb h1), e, wb_tn (hb h2)]
    exact encN_i l m h1.2.2 h2.2.2 e2
  · rintro ⟨rfl, h⟩
    exact enc_c l h
/-- the names that the reference holds -/
def NMR (g : Nat → Int32) (df : Nat → Nat × Nat) (nm : Nat → Int64) (o num : Nat) : Prop := ∀ k, k < num → nm (o + k) = encI g (df (o + k)).1 (df (o + k)).2 ∧ NOK g (df (o + k)).1 (df (o + k)).2
def FDR (nm : Nat → Int64) (o num : Nat) (v : Int64) (r : Int32) : Prop := (r = -1 ∧ ∀ k, k < num → nm (o + k) ≠ v) ∨ (∃ k, k < num ∧ r = nI k ∧ nm (o + k) = v ∧ ∀ j, j < k → nm (o + j) ≠ v)
theorem FDR_F {g : Nat → Int32} {df : Nat → Nat × Nat} {nm : Nat → Int64} {o num a l : Nat} {r : Int32} (hN : NMR g df nm o num) (hv : NOK g a l) (hn : num ≤ 12) (h : FDR nm o num (encI g a l) r) : (FN g df o num a l < num ∧ r = nI (FN g df o num a l)) ∨ (FN g df o num a l = num ∧ r = -1) := by
  have ke : ∀ k, k < num → (nm (o + k) = encI g a l ↔ EQ9 g (df (o + k)).1 (df (o + k)).2 a l) := fun k hk => by
    rw [(hN k hk).1]
    exact enc_i (hN k hk).2 hv
  rcases h with ⟨h1, h2⟩ | ⟨k, hk, h1, h2, h3⟩
  · right
    exact ⟨FN_s (Nat.le_refl _) hn (fun j hj z => h2 j hj ((ke j hj).mpr z)) (Or.inl rfl), h1⟩
  · left
    have e : FN g df o num a l = k := FN_s (by omega) hn (fun j hj z => h3 j hj ((ke j (by omega)).mpr z)) (Or.inr ((ke k hk).mp h2))
    rw [e]
    exact ⟨hk, h1⟩
def ptc (g : Nat → Int32) (n : Nat) (df : Nat → Nat × Nat) (o num p : Nat) : Nat := if tkc g n p = 4 then (if FN g df o num (SK g n p) (tke g n p - SK g n p) < num then 0 else 3) else 1
def nnc (g : Nat → Int32) (n : Nat) (df : Nat → Nat × Nat) (np nk p : Nat) : Nat := if tkc g n p = 4 then (if FN g df 0 np (SK g n p) (tke g n p - SK g n p) < np ∨ FN g df 8 nk (SK g n p) (tke g n p - SK g n p) < nk then 3 else 0) else 1
theorem ptc_b {g : Nat → Int32} {n : Nat} {df : Nat → Nat × Nat} {o num p : Nat} : ptc g n df o num p < 100 := by unfold ptc; split <;> (try split) <;> omega
theorem nnc_b {g : Nat → Int32} {n : Nat} {df : Nat → Nat × Nat} {np nk p : Nat} : nnc g n df np nk p < 100 := by unfold nnc; split <;> (try split) <;> omega
theorem NOK_t {g : Nat → Int32} {n p : Nat} (h : tkc g n p = 4) (hn : n ≤ 900) : NOK g (SK g n p) (tke g n p - SK g n p) := by
  by_cases h1 : SK g n p < n
  · by_cases hl : isL (g (SK g n p)) = true
    · rcases wdx_c g (SK g n p) (LT g n (SK g n p) - SK g n p) with ⟨-, hk⟩ | ⟨hw, hk⟩
      · obtain ⟨e1, e2⟩ := tk_name h1 hl hk
        rw [e1] at h
        by_cases q : LT g n (SK g n p) - SK g n p ≤ 8
        · have a := LT_nx h1 hl (by omega)
          rw [e2]
          refine ⟨by omega, q, fun j hj => LT_in (n := n) (i := SK g n p) (by omega) (by omega)⟩
        · rw [if_neg q] at h
          omega
      · rw [(tk_word h1 hl hw hk).1] at h
        omega
    · by_cases hd : isD (g (SK g n p)) = true
      · rw [(tk_num h1 hl hd).1] at h
        omega
      · rw [(tk_sign h1 hl hd).1] at h
        split at h <;> omega
  · rw [(tk_end h1).1] at h
    omega
section PTY
variable {g : Nat → Int32} {n : Nat} {df : Nat → Nat × Nat} {nm : Nat → Int64} {o num p : Nat} {wr wa wr1 wa1 wr2 wa2 ra1 r : Int32} {sp1 : Nat} {v : Int64}
/-- a known name: what nameRead and find say, and the fault behind it -/
theorem pty (hN : NMR g df nm o num) (hn : num ≤ 12) (hn9 : n ≤ 900) (hE : ERR wr wa (nmc g n p) (SK g n p) wr1 wa1) (hO : wr = 0 → nmc g n p = 0 → sp1 = tke g n p ∧ ra1 = nI (SK g n p) ∧ v = encI g (SK g n p) (tke g n p - SK g n p)) (hF : FDR nm o num v r) (hA : r ≠ -1 → wr2 = wr1 ∧ wa2 = wa1) (hB : r = -1 → (wr1 ≠ 0 → wr2 = wr1 ∧ wa2 = wa1) ∧ (wr1 = 0 → wr2 = 3 ∧ wa2 = ra1)) : ERR wr wa (ptc g n df o num p) (SK g n p) wr2 wa2 ∧ (wr = 0 → ptc g n df o num p = 0 → sp1 = tke g n p ∧ ra1 = nI (SK g n p) ∧ r = nI (FN g df o num (SK g n p) (tke g n p - SK g n p)) ∧ FN g df o num (SK g n p) (tke g n p - SK g n p) < num ∧ wr2 = 0) := by
  have keep : wr1 ≠ 0 → wr2 = wr1 ∧ wa2 = wa1 := fun z => by
    by_cases q : r = -1
    · exact (hB q).1 z
    · exact hA q
  by_cases h0 : wr = 0
  · by_cases h4 : tkc g n p = 4
    · have hz : nmc g n p = 0 := if_pos h4
      obtain ⟨e1, e2⟩ := ERR_z hE h0 hz
      obtain ⟨o1, o2, o3⟩ := hO h0 hz
      rw [o3] at hF
      have hne : ∀ k : Nat, k < 12 → nI k ≠ (-1 : Int32) := fun k hk => (nI_neg (by omega)).1
      rcases FDR_F hN (NOK_t h4 hn9) hn hF with ⟨f1, f2⟩ | ⟨f1, f2⟩
      · have hp : ptc g n df o num p = 0 := by
          unfold ptc
          rw [if_pos h4, if_pos f1]
        obtain ⟨a1, a2⟩ := hA (by rw [f2]; exact hne _ (by omega))
        rw [hp, a1, a2, e1, e2, h0]
        exact ⟨ERR_0, fun _ _ => ⟨o1, o2, f2, f1, rfl⟩⟩
      · have hp : ptc g n df o num p = 3 := by
          unfold ptc
          rw [if_pos h4, if_neg (by omega)]
        obtain ⟨b1, b2⟩ := (hB f2).2 e1
        rw [hp]
        exact ⟨ERR_e h0 (by decide) ⟨b1, b2.trans o2⟩, fun _ z => by omega⟩
    · have hz : nmc g n p = 1 := if_neg h4
      rw [hz] at hE
      obtain ⟨e1, e2, e3⟩ := ERR_n hE h0 (by decide) (by decide)
      obtain ⟨k1, k2⟩ := keep e1
      have hp : ptc g n df o num p = 1 := if_neg h4
      rw [hp]
      exact ⟨ERR_e h0 (by decide) ⟨k1.trans e2, k2.trans e3⟩, fun _ z => by omega⟩
  · obtain ⟨e1, e2⟩ := hE.1 h0
    obtain ⟨k1, k2⟩ := keep (by rw [e1]; exact h0)
    exact ⟨⟨fun _ => ⟨k1.trans e1, k2.trans e2⟩, fun z => absurd z h0⟩, fun z => absurd z h0⟩
end PTY

theorem cmp_0 {a b : Int64} (h : lg_cmp a b = 0) : a = b := by
  have h1 : ¬ lg_cmp a b < 0 := by rw [h]; decide
  have h2 : ¬ 0 < lg_cmp a b := by rw [h]; decide
  rw [lg_cmp_lt, Int64.lt_iff_toInt_lt] at h1
  rw [lg_cmp_gt, Int64.lt_iff_toInt_lt] at h2
  exact Int64.toInt_inj.mp (by omega)
theorem cmp_n {a b : Int64} (h : ¬ lg_cmp a b = 0) : a ≠ b := by
  rintro rfl
  apply h
  have h1 : ¬ lg_cmp a a < 0 := by rw [lg_cmp_lt, Int64.lt_iff_toInt_lt]; omega
  have h2 : ¬ 0 < lg_cmp a a := by rw [lg_cmp_gt, Int64.lt_iff_toInt_lt]; omega
  rw [Int32.lt_iff_toInt_lt] at h1 h2
  exact Int32.toInt_inj.mp (by omega)
set_option maxHeartbeats 4000000 in
set_option maxRecDepth 100000 in
theorem f_name (l : Launch) (dC : Nat → ClassId) (dI : Nat → Nat → Nat) (cy : Nat → ClassId) (L : List Nat) (kap : Nat → Nat) (pr : Pr) (ad : (Nat → Nat) × (Nat → Nat)) (S : Nat → va_E) (sz : Nat) (o : Nat) (hTy : Ty cy L kap pr S) (hT_o : TK L kap o 12) (g : Nat → Int32) (nm : Nat → Int64) (sp : Nat) (sn : Nat) (wr : Int32) (wa : Int32) (sen : Int32) (ra : Int32) (pa : Nat) (ki : Nat) (rs : Nat) (hM : MF S o g nm sp sn wr wa sen ra pa ki rs) (hsp : sp ≤ sn) (hg : BR g) : Met l yX12_nameRead (wT yX12_nameRead cX12_nameRead 5 (some .long)) ({ frames := 5, cells := 0, slots := 0, locals := 111 }) (pcS dC dI [.ref o] sz L S (cyT cy) NLs ad) (va_Ql (fun r S' => Ty cy L kap pr S' ∧ Fr kap [12, 112] S S' ∧ (∃ sp' wr' wa' ra', MF S' o g nm sp' sn wr' wa' sen ra' pa ki rs ∧ sp' ≤ sn ∧ ERR wr wa (nmc g sn sp) (SK g sn sp) wr' wa' ∧ (wr = 0 → nmc g sn sp = 0 → sp' = tke g sn sp ∧ ra' = nI (SK g sn sp) ∧ r = encI g (SK g sn sp) (tke g sn sp - SK g sn sp)))) (fun S' t => pB dC dI (AL L sz) (va_pl L S') (cyT cy) t) (AL L sz)) 0 0 (AL L sz) := by
  refine Met.ofW (cc := cX12_nameRead) (maxL := 5) (ret := (some .long)) (by decide) rfl ?_
  intro p e s m args below meth c s₁ B hml hv
  obtain ⟨rfl, hsz, hP, hK, hD0, hN, hSTR⟩ := hv
  have hx := B.exec
  have hb := B.bytes
  have hr := B.returns
  have hT : ∀ wd ∈ TB, wd.before [.ref o].toArray s = true := fun wd h => atoms_spec (ws := wT yX12_nameRead cX12_nameRead 5 (some .long)) B.pre wd (List.mem_cons_of_mem _ h)
  have hown : s.vm.findClass RX12 = some m.cls := findClass_of_methodNamed B.named
  have hlocks := B.notSynchronized
  subst hsz
  have hW : PW dC dI L (AL L s.heap.size) s.heap S s.heap [] := ⟨hP, pl_self hD0, va_S.rf⟩
  have hA0 : ∀ q, q ∈ L → AL L s.heap.size q := fun _ h => Or.inl h
  have hA : ∀ q, s.heap.size ≤ q → AL L s.heap.size q := fun _ h => Or.inr h
  have hFr : Fr kap [12, 112] S S := Fr.rf
  have hl := lv_entry ([.ref o]) (n := 5) (Nat.le_of_ble_eq_true rfl)
  rw [lg_entry_eq]
  generalize (lg_sl ([.ref o]) ++ List.replicate (5 - (lg_sl ([.ref o])).length) Slot.unset).toArray = ls at hl ⊢
  have hl : lv_has ls 5 [(0, .ref o)] := hl
  obtain ⟨x_1, x_2, x_3, x_4, x_5, x_6, x_7, x_8, x_9, x_10, x_11, x_12, x_13, x_14, x_15, x_16, x_17, x_18, x_19, x_20, x_21, x_22, x_23, x_24, x_25, x_26, x_27, x_28, x_29, x_30, x_31, hS_o, hT_x_1, hT_x_2, hT_x_3, hT_x_4, hT_x_5, hb_x_6, hb_x_7, hb_x_8, hT_x_10, hb_q2, hb_x_11, hb_x_12, hT_x_17, hT_x_18, hb_x_19, hT_x_20, hT_x_21, hT_x_22, hT_x_23, hT_x_24, hT_x_25, hT_x_26, hT_x_27, hT_x_28, hT_x_29, hT_x_30, hb_x_31⟩ := hTy.k12 hT_o
  have hb_q2 : pr.2 ≤ 900 := hb_q2
  have hS_o : S o = .inr (12, [.ref x_1, .ref x_2, .ref x_3, .ref x_4, .ref x_5, .int (nI x_6), .int (nI x_7), .int (nI x_8), .int x_9, .ref x_10, .int (nI (pr.2)), .int (nI x_11), .int (nI x_12), .int x_13, .int x_14, .int x_15, .int x_16, .ref x_17, .ref x_18, .int (nI x_19), .ref x_20, .ref x_21, .ref x_22, .ref x_23, .ref x_24, .ref x_25, .ref x_26, .ref x_27, .ref x_28, .ref x_29, .ref x_30, .int (nI x_31)]) := hS_o
  obtain ⟨hMK_, h14_, h15_, h16_, h9_, h3_⟩ := hM
  obtain ⟨e12_, e11_, e13_, e5_, e6_, e0_⟩ := MKe hMK_ hS_o rfl rfl rfl rfl rfl rfl (by omega) (by omega) (by omega) (by omega)
  subst e12_ e11_ e13_ e5_ e6_ e0_
  have e14_ := h14_.symm.trans (inf_i hS_o rfl)
  subst e14_
  have e15_ := h15_.symm.trans (inf_i hS_o rfl)
  subst e15_
  have e16_ := h16_.symm.trans (inf_i hS_o rfl)
  subst e16_
  obtain ⟨f_32, hS_x_10⟩ := hTy.k55 hT_x_10
  have e9_ := h9_.symm.trans (fld_i hS_o rfl hS_x_10)
  subst e9_
  obtain ⟨f_33, hS_x_4⟩ := hTy.k53 hT_x_4
  have e3_ := h3_.symm.trans (lfd_i hS_o rfl hS_x_4)
  subst e3_
  refine lv_aload_n hx hb dX12_nameRead_0 rfl (lv_at hl 0 rfl) ?_
  refine pl_get (ci := 12) (v := .int wr) (C := RX12) (T := TX12) (N := 32) hx hb hT iX12 hown hK hW hT_o.1 hS_o rfl 13 (by decide) w1095 rfl dX12_nameRead_1 ?_
  refine lv_if_eq (tgt := 9) hx hb dX12_nameRead_4 (by decide) (fun c_4 => ?_) (fun c_4 => ?_)
  · refine lv_aload_n hx hb dX12_nameRead_9 rfl (lv_at hl 0 rfl) ?_
    refine pl_calli (va_runV (As := []) (rest := []) ⟨hx, hb, hml, hown, hT⟩ (f_peek l dC dI cy L kap pr S s.heap.size o hTy hT_o g nm sp sn wr wa sen ra pa ki rs ⟨MKi (sp := sp) (sn := sn) (pa := pa) (ki := ki) hS_o rfl rfl rfl rfl rfl rfl (by omega) (by omega) (by omega) (by omega), inf_i hS_o rfl, inf_i hS_o rfl, inf_i hS_o rfl, fld_i hS_o rfl hS_x_10, lfd_i hS_o rfl hS_x_4⟩ (by omega) hg) (cwV 0 hT (gV w1190 w1192 ws55 w14 w1193) rfl rfl rfl (by decide +kernel) ⟨(Nat.le_of_ble_eq_true rfl), (Nat.le_of_ble_eq_true rfl)⟩) ⟨pcN.blind, pl_recv hK hW hT_o.1 hS_o rfl, pcN.pre hW.1 hK hW.2.1 hN (fun q h => absurd h List.not_mem_nil)⟩ rfl rfl hl.1 rfl (lv_room (Nat.le_of_ble_eq_true rfl)) dX12_nameRead_10 ⟨(Nat.le_of_ble_eq_true rfl), (Nat.le_of_ble_eq_true rfl)⟩) hW hA0 hA (fun r_35 S_34 H locs hrel hW => ?_)
    obtain ⟨hTy, hF1, hx1⟩ := hrel
    have hFr := hFr.tr hF1 (by decide)
    have hS_x_10 := hF1.at hT_x_10 (by decide) hS_x_10
    have hS_x_4 := hF1.at hT_x_4 (by decide) hS_x_4
    have hpk_ := hx1.2
    have hpb_ := SK_le (g := g) (n := sn) (i := sp) (by omega)
    have hpg_ := SK_ge (g := g) (n := sn) (i := sp)
    obtain ⟨x_36, x_37, x_38, x_39, x_40, x_41, x_42, x_43, x_44, x_45, x_46, x_47, x_48, x_49, x_50, x_51, x_52, x_53, x_54, x_55, x_56, x_57, x_58, x_59, x_60, x_61, x_62, x_63, x_64, x_65, x_66, hS_o, hT_x_36, hT_x_37, hT_x_38, hT_x_39, hT_x_40, hb_x_41, hb_x_42, hb_x_43, hT_x_45, hb_q2, hb_x_46, hb_x_47, hT_x_52, hT_x_53, hb_x_54, hT_x_55, hT_x_56, hT_x_57, hT_x_58, hT_x_59, hT_x_60, hT_x_61, hT_x_62, hT_x_63, hT_x_64, hT_x_65, hb_x_66⟩ := hTy.k12 hT_o
    have hb_q2 : pr.2 ≤ 900 := hb_q2
    have hS_o : S_34 o = .inr (12, [.ref x_36, .ref x_37, .ref x_38, .ref x_39, .ref x_40, .int (nI x_41), .int (nI x_42), .int (nI x_43), .int x_44, .ref x_45, .int (nI (pr.2)), .int (nI x_46), .int (nI x_47), .int x_48, .int x_49, .int x_50, .int x_51, .ref x_52, .ref x_53, .int (nI x_54), .ref x_55, .ref x_56, .ref x_57, .ref x_58, .ref x_59, .ref x_60, .ref x_61, .ref x_62, .ref x_63, .ref x_64, .ref x_65, .int (nI x_66)]) := hS_o
    obtain ⟨hMK_, h14_, h15_, h16_, h9_, h3_⟩ := hx1.1
    obtain ⟨e12_, e11_, e13_, e5_, e6_, e0_⟩ := MKe hMK_ hS_o rfl rfl rfl rfl rfl rfl (by omega) (by omega) (by omega) (by omega)
    subst e12_ e11_ e13_ e5_ e6_ e0_
    have e14_ := h14_.symm.trans (inf_i hS_o rfl)
    subst e14_
    have e15_ := h15_.symm.trans (inf_i hS_o rfl)
    subst e15_
    have e16_ := h16_.symm.trans (inf_i hS_o rfl)
    subst e16_
    obtain ⟨f_67, hS_x_45⟩ := hTy.k55 hT_x_45
    have e9_ := h9_.symm.trans (fld_i hS_o rfl hS_x_45)
    subst e9_
    obtain ⟨f_68, hS_x_39⟩ := hTy.k53 hT_x_39
    have e3_ := h3_.symm.trans (lfd_i hS_o rfl hS_x_39)
    subst e3_
    refine vp_callSi (va_Run.run (va_runS (As := [.int r_35]) (rest := []) ⟨hx, hb, hml, hown, hT⟩ (f_isLetter l dC dI H.size r_35) (va_cwS 1 hT (gS w1202 w1203 w14 w1204) rfl rfl rfl (by decide +kernel) ⟨(Nat.le_of_ble_eq_true rfl), (Nat.le_of_ble_eq_true rfl)⟩) ⟨pcW.blind, pcW.pre (va_P0 _ _ _) (hK.sub (tys' := []) [] rfl) (va_D0 (fun _ => True))⟩ rfl rfl hl.1 rfl (lv_room (Nat.le_of_ble_eq_true rfl)) dX12_nameRead_13 ⟨(Nat.le_of_ble_eq_true rfl), (Nat.le_of_ble_eq_true rfl)⟩)) (fun r_69 hr_69 => ?_)
    rcases hr_69 with hc_ | hc_
    · obtain ⟨rfl, hL_16⟩ := hc_
      refine lv_if_eq (tgt := 36) hx hb dX12_nameRead_16 (by decide) (fun h => absurd h (by decide)) (fun _ => ?_)
      refine lv_aload_n hx hb dX12_nameRead_19 rfl (lv_at hl 0 rfl) ?_
      refine vp_callSi (va_Run.run (va_runV (As := []) (rest := []) ⟨hx, hb, hml, hown, hT⟩ (f_letters l dC dI cy L kap pr S_34 H.size o hTy hT_o g nm (SK g sn sp) sn wr wa sen ra pa ki rs ⟨MKi (sp := (SK g sn sp)) (sn := sn) (pa := pa) (ki := ki) hS_o rfl rfl rfl rfl rfl rfl (by omega) (by omega) (by omega) (by omega), inf_i hS_o rfl, inf_i hS_o rfl, inf_i hS_o rfl, fld_i hS_o rfl hS_x_45, lfd_i hS_o rfl hS_x_39⟩ (by omega) hg) (cwV 0 hT (gV w1207 w1209 ws58 w14 w1210) rfl rfl rfl (by decide +kernel) ⟨(Nat.le_of_ble_eq_true rfl), (Nat.le_of_ble_eq_true rfl)⟩) ⟨pcN.blind, pl_recv hK hW hT_o.1 hS_o rfl, pcN.pre hW.1 hK hW.2.1 hN (fun q h => absurd h List.not_mem_nil)⟩ rfl rfl hl.1 rfl (lv_room (Nat.le_of_ble_eq_true rfl)) dX12_nameRead_20 ⟨(Nat.le_of_ble_eq_true rfl), (Nat.le_of_ble_eq_true rfl)⟩)) (fun r_70 hr_70 => ?_)
      have hlb_ := LT_le (g := g) (n := sn) (i := SK g sn sp) (by omega)
      have hlg_ := LT_ge (g := g) (n := sn) (i := SK g sn sp)
      obtain rfl : r_70 = nI (LT g sn (SK g sn sp) - (SK g sn sp)) := hr_70
      refine lv_bipush (v := 8) hx hb dX12_nameRead_23 (by decide) ?_
      refine lv_icmp_gt (tgt := 36) hx hb dX12_nameRead_25 (by decide) (fun c_25 => ?_) (fun c_25 => ?_)
      · have c_25 : 8 < (LT g sn (SK g sn sp) - (SK g sn sp)) := (nI_ltI (a := 8) (b := LT g sn (SK g sn sp) - (SK g sn sp)) (by omega) (by omega)).mp c_25
        refine lv_aload_n hx hb dX12_nameRead_36 rfl (lv_at hl 0 rfl) ?_
        refine lv_iconst (v := 1) hx hb dX12_nameRead_37 (by decide) ?_
        refine lv_aload_n hx hb dX12_nameRead_38 rfl (lv_at hl 0 rfl) ?_
        refine pl_get (ci := 12) (v := .int (nI (SK g sn sp))) (C := RX12) (T := TX12) (N := 32) hx hb hT iX12 hown hK hW hT_o.1 hS_o rfl 12 (by decide) w1094 rfl dX12_nameRead_39 ?_
        refine pl_callv (va_runV (As := [.int 1, .int (nI (SK g sn sp))]) (rest := []) ⟨hx, hb, hml, hown, hT⟩ (f_fails l dC dI cy L kap pr S_34 H.size o 1 (nI (SK g sn sp)) hTy hT_o g nm (SK g sn sp) sn wr wa sen ra pa ki rs ⟨MKi (sp := (SK g sn sp)) (sn := sn) (pa := pa) (ki := ki) hS_o rfl rfl rfl rfl rfl rfl (by omega) (by omega) (by omega) (by omega), inf_i hS_o rfl, inf_i hS_o rfl, inf_i hS_o rfl, fld_i hS_o rfl hS_x_45, lfd_i hS_o rfl hS_x_39⟩ (by omega) hg) (cwV 2 hT (gV w1214 w1216 ws59 w14 w1217) rfl rfl rfl (by decide +kernel) ⟨(Nat.le_of_ble_eq_true rfl), (Nat.le_of_ble_eq_true rfl)⟩) ⟨pcN.blind, pl_recv hK hW hT_o.1 hS_o rfl, pcN.pre hW.1 hK hW.2.1 hN (fun q h => absurd h List.not_mem_nil)⟩ rfl rfl hl.1 rfl (lv_room (Nat.le_of_ble_eq_true rfl)) dX12_nameRead_42 ⟨(Nat.le_of_ble_eq_true rfl), (Nat.le_of_ble_eq_true rfl)⟩) hW hA0 hA (fun S_71 H locs hrel hW => ?_)
        obtain ⟨hTy, hF1, hx1⟩ := hrel
        have hFr := hFr.tr hF1 (by decide)
        have hS_x_10 := hF1.at hT_x_10 (by decide) hS_x_10
        have hS_x_4 := hF1.at hT_x_4 (by decide) hS_x_4
        have hS_x_45 := hF1.at hT_x_45 (by decide) hS_x_45
        have hS_x_39 := hF1.at hT_x_39 (by decide) hS_x_39
        obtain ⟨wr72, wa72, hM72, hfa72, hfb72⟩ := hx1
        obtain ⟨x_73, x_74, x_75, x_76, x_77, x_78, x_79, x_80, x_81, x_82, x_83, x_84, x_85, x_86, x_87, x_88, x_89, x_90, x_91, x_92, x_93, x_94, x_95, x_96, x_97, x_98, x_99, x_100, x_101, x_102, x_103, hS_o, hT_x_73, hT_x_74, hT_x_75, hT_x_76, hT_x_77, hb_x_78, hb_x_79, hb_x_80, hT_x_82, hb_q2, hb_x_83, hb_x_84, hT_x_89, hT_x_90, hb_x_91, hT_x_92, hT_x_93, hT_x_94, hT_x_95, hT_x_96, hT_x_97, hT_x_98, hT_x_99, hT_x_100, hT_x_101, hT_x_102, hb_x_103⟩ := hTy.k12 hT_o
        have hb_q2 : pr.2 ≤ 900 := hb_q2
        have hS_o : S_71 o = .inr (12, [.ref x_73, .ref x_74, .ref x_75, .ref x_76, .ref x_77, .int (nI x_78), .int (nI x_79), .int (nI x_80), .int x_81, .ref x_82, .int (nI (pr.2)), .int (nI x_83), .int (nI x_84), .int x_85, .int x_86, .int x_87, .int x_88, .ref x_89, .ref x_90, .int (nI x_91), .ref x_92, .ref x_93, .ref x_94, .ref x_95, .ref x_96, .ref x_97, .ref x_98, .ref x_99, .ref x_100, .ref x_101, .ref x_102, .int (nI x_103)]) := hS_o
        obtain ⟨hMK_, h14_, h15_, h16_, h9_, h3_⟩ := hM72
        obtain ⟨e12_, e11_, e13_, e5_, e6_, e0_⟩ := MKe hMK_ hS_o rfl rfl rfl rfl rfl rfl (by omega) (by omega) (by omega) (by omega)
        subst e12_ e11_ e13_ e5_ e6_ e0_
        have e14_ := h14_.symm.trans (inf_i hS_o rfl)
        subst e14_
        have e15_ := h15_.symm.trans (inf_i hS_o rfl)
        subst e15_
        have e16_ := h16_.symm.trans (inf_i hS_o rfl)
        subst e16_
        obtain ⟨f_104, hS_x_82⟩ := hTy.k55 hT_x_82
        have e9_ := h9_.symm.trans (fld_i hS_o rfl hS_x_82)
        subst e9_
        obtain ⟨f_105, hS_x_76⟩ := hTy.k53 hT_x_76
        have e3_ := h3_.symm.trans (lfd_i hS_o rfl hS_x_76)
        subst e3_
        refine lv_lconst (v := 0) hx hb dX12_nameRead_45 (by decide) ?_
        exact W.lret (v := 0) hx hb hr (fun t ht h9 => ⟨⟨0, S_71, rfl, ⟨hTy, hFr, ⟨SK g sn sp, _, _, _, ⟨MKi (sp := (SK g sn sp)) (sn := sn) (pa := pa) (ki := ki) hS_o rfl rfl rfl rfl rfl rfl (by omega) (by omega) (by omega) (by omega), inf_i hS_o rfl, inf_i hS_o rfl, inf_i hS_o rfl, fld_i hS_o rfl hS_x_82, lfd_i hS_o rfl hS_x_76⟩, by omega, by rw [show nmc g sn sp = 1 from if_neg (tk4_l hg (by omega) (by rw [← hpk_]; exact hL_16) (by omega))]; exact ERR_e c_4 (by decide) (hfb72 c_4), fun _ z => absurd z (by rw [show nmc g sn sp = 1 from if_neg (tk4_l hg (by omega) (by rw [← hpk_]; exact hL_16) (by omega))]; decide)⟩⟩, by rw [ht]; exact hW.1, va_K.moved h9.alike hK, hW.2.1⟩, hW.2.2.F ht⟩) hW.2.2.2.2 dX12_nameRead_46
      · have c_25 : ¬ (8 < (LT g sn (SK g sn sp) - (SK g sn sp))) := fun hh9 => c_25 ((nI_ltI (a := 8) (b := LT g sn (SK g sn sp) - (SK g sn sp)) (by omega) (by omega)).mpr hh9)
        refine lv_aload_n hx hb dX12_nameRead_28 rfl (lv_at hl 0 rfl) ?_
        refine pl_calli (va_runV (As := []) (rest := []) ⟨hx, hb, hml, hown, hT⟩ (f_word l dC dI cy L kap pr ad S_34 H.size o hTy hT_o g nm (SK g sn sp) sn wr wa sen ra pa ki rs ⟨MKi (sp := (SK g sn sp)) (sn := sn) (pa := pa) (ki := ki) hS_o rfl rfl rfl rfl rfl rfl (by omega) (by omega) (by omega) (by omega), inf_i hS_o rfl, inf_i hS_o rfl, inf_i hS_o rfl, fld_i hS_o rfl hS_x_45, lfd_i hS_o rfl hS_x_39⟩ (by omega) hg) (cwV 0 hT (gV w1198 w1200 ws57 w14 w1201) rfl rfl rfl (by decide +kernel) ⟨(Nat.le_of_ble_eq_true rfl), (Nat.le_of_ble_eq_true rfl)⟩) ⟨pcS.blind, pl_recv hK hW hT_o.1 hS_o rfl, pcS.pre hW.1 hK hW.2.1 hN hSTR hW.2.2⟩ rfl rfl hl.1 rfl (lv_room (Nat.le_of_ble_eq_true rfl)) dX12_nameRead_29 ⟨(Nat.le_of_ble_eq_true rfl), (Nat.le_of_ble_eq_true rfl)⟩) hW hA0 hA (fun r_107 S_106 H locs hrel hW => ?_)
        obtain ⟨hTy, hF1, hx1⟩ := hrel
        have hFr := hFr.tr hF1 (by decide)
        have hS_x_10 := hF1.at hT_x_10 (by decide) hS_x_10
        have hS_x_4 := hF1.at hT_x_4 (by decide) hS_x_4
        have hS_x_45 := hF1.at hT_x_45 (by decide) hS_x_45
        have hS_x_39 := hF1.at hT_x_39 (by decide) hS_x_39
        obtain ⟨sp108, hM108, hwa108, hwb108⟩ := hx1
        have hSg108 := SK_ge (g := g) (n := sn) (i := SK g sn sp)
        have hSl108 := SK_le (g := g) (n := sn) (i := SK g sn sp) (by omega)
        obtain ⟨x_109, x_110, x_111, x_112, x_113, x_114, x_115, x_116, x_117, x_118, x_119, x_120, x_121, x_122, x_123, x_124, x_125, x_126, x_127, x_128, x_129, x_130, x_131, x_132, x_133, x_134, x_135, x_136, x_137, x_138, x_139, hS_o, hT_x_109, hT_x_110, hT_x_111, hT_x_112, hT_x_113, hb_x_114, hb_x_115, hb_x_116, hT_x_118, hb_q2, hb_x_119, hb_x_120, hT_x_125, hT_x_126, hb_x_127, hT_x_128, hT_x_129, hT_x_130, hT_x_131, hT_x_132, hT_x_133, hT_x_134, hT_x_135, hT_x_136, hT_x_137, hT_x_138, hb_x_139⟩ := hTy.k12 hT_o
        have hb_q2 : pr.2 ≤ 900 := hb_q2
        have hS_o : S_106 o = .inr (12, [.ref x_109, .ref x_110, .ref x_111, .ref x_112, .ref x_113, .int (nI x_114), .int (nI x_115), .int (nI x_116), .int x_117, .ref x_118, .int (nI (pr.2)), .int (nI x_119), .int (nI x_120), .int x_121, .int x_122, .int x_123, .int x_124, .ref x_125, .ref x_126, .int (nI x_127), .ref x_128, .ref x_129, .ref x_130, .ref x_131, .ref x_132, .ref x_133, .ref x_134, .ref x_135, .ref x_136, .ref x_137, .ref x_138, .int (nI x_139)]) := hS_o
        obtain ⟨hMK_, h14_, h15_, h16_, h9_, h3_⟩ := hM108
        obtain ⟨e12_, e11_, e13_, e5_, e6_, e0_⟩ := MKe hMK_ hS_o rfl rfl rfl rfl rfl rfl (by omega) (by omega) (by omega) (by omega)
        subst e12_ e11_ e13_ e5_ e6_ e0_
        have e14_ := h14_.symm.trans (inf_i hS_o rfl)
        subst e14_
        have e15_ := h15_.symm.trans (inf_i hS_o rfl)
        subst e15_
        have e16_ := h16_.symm.trans (inf_i hS_o rfl)
        subst e16_
        obtain ⟨f_140, hS_x_118⟩ := hTy.k55 hT_x_118
        have e9_ := h9_.symm.trans (fld_i hS_o rfl hS_x_118)
        subst e9_
        obtain ⟨f_141, hS_x_112⟩ := hTy.k53 hT_x_112
        have e3_ := h3_.symm.trans (lfd_i hS_o rfl hS_x_112)
        subst e3_
        obtain ⟨es_, hrw_⟩ := hwb108 c_4
        rw [SK_id (by omega) (by omega)] at es_
        subst es_
        have hrw_ : r_107 = WR g sn sp := hrw_.trans (by unfold WR; rw [(tk_id (by omega) (by omega)).1])
        refine lv_iconst (v := (-1)) hx hb dX12_nameRead_32 (by decide) ?_
        refine lv_icmp_eq (tgt := 47) hx hb dX12_nameRead_33 (by decide) (fun c_33 => ?_) (fun c_33 => ?_)
        · have htk := tk4_y (p := sp) hg (by omega) (by rw [← hpk_]; exact hL_16) (by omega) (by rw [← hrw_]; exact c_33)
          refine lv_aload_n hx hb dX12_nameRead_47 rfl (lv_at hl 0 rfl) ?_
          refine lv_aload_n hx hb dX12_nameRead_48 rfl (lv_at hl 0 rfl) ?_
          refine pl_get (ci := 12) (v := .int (nI (SK g sn sp))) (C := RX12) (T := TX12) (N := 32) hx hb hT iX12 hown hK hW hT_o.1 hS_o rfl 12 (by decide) w1094 rfl dX12_nameRead_49 ?_
          refine pl_put (ci := 12) (v := .int (nI (SK g sn sp))) (ty := .int) (C := RX12) (T := TX12) (N := 32) (fs' := [.ref rs, .ref x_110, .ref x_111, .ref x_112, .ref x_113, .int (nI pa), .int (nI ki), .int (nI x_116), .int x_117, .ref x_118, .int (nI (pr.2)), .int (nI sn), .int (nI (SK g sn sp)), .int wr, .int wa, .int sen, .int (nI (SK g sn sp)), .ref x_125, .ref x_126, .int (nI x_127), .ref x_128, .ref x_129, .ref x_130, .ref x_131, .ref x_132, .ref x_133, .ref x_134, .ref x_135, .ref x_136, .ref x_137, .ref x_138, .int (nI x_139)]) hx hb hT iX12 tyX12 tyX12_ok nmX12 hown hK hW hT_o.1 hS_o rfl 16 (by decide) w1098 rfl (by decide +kernel) rfl rfl (Nat.le_of_ble_eq_true rfl) rfl dX12_nameRead_52 (fun H locs S_142 e1 hW => ?_)
          have hTy := hTy.u12 e1 hT_o ⟨rs, x_110, x_111, x_112, x_113, pa, ki, x_116, x_117, x_118, sn, SK g sn sp, wr, wa, sen, nI (SK g sn sp), x_125, x_126, x_127, x_128, x_129, x_130, x_131, x_132, x_133, x_134, x_135, x_136, x_137, x_138, x_139, rfl, hT_x_1, hT_x_110, hT_x_111, hT_x_112, hT_x_113, (by omega), (by omega), (by omega), hT_x_118, (by show pr.2 ≤ 900; omega), (by omega), (by omega), hT_x_125, hT_x_126, (by omega), hT_x_128, hT_x_129, hT_x_130, hT_x_131, hT_x_132, hT_x_133, hT_x_134, hT_x_135, hT_x_136, hT_x_137, hT_x_138, (by omega)⟩
          have hS_x_10 := un e1 hT_x_10 hT_o (by decide) hS_x_10
          have hS_x_4 := un e1 hT_x_4 hT_o (by decide) hS_x_4
          have hS_x_45 := un e1 hT_x_45 hT_o (by decide) hS_x_45
          have hS_x_39 := un e1 hT_x_39 hT_o (by decide) hS_x_39
          have hS_x_118 := un e1 hT_x_118 hT_o (by decide) hS_x_118
          have hS_x_112 := un e1 hT_x_112 hT_o (by decide) hS_x_112
          have hws := (show wrs (.inr (12, [.ref rs, .ref x_110, .ref x_111, .ref x_112, .ref x_113, .int (nI pa), .int (nI ki), .int (nI x_116), .int x_117, .ref x_118, .int (nI (pr.2)), .int (nI sn), .int (nI (SK g sn sp)), .int wr, .int wa, .int sen, .int (nI (SK g sn sp)), .ref x_125, .ref x_126, .int (nI x_127), .ref x_128, .ref x_129, .ref x_130, .ref x_131, .ref x_132, .ref x_133, .ref x_134, .ref x_135, .ref x_136, .ref x_137, .ref x_138, .int (nI x_139)])) = wrs (S_106 o) from by rw [hS_o]; rfl)
          have hFr := ufs hFr e1 hT_o (by decide) hws
          have hS_o := us e1
          refine lv_lconst (v := 0) hx hb dX12_nameRead_55 (by decide) ?_
          refine lv_lstore_n (lv' := [(1, .long 0), (0, .ref o)]) hx hb dX12_nameRead_56 rfl hl (by decide) rfl (fun ls hl => ?_)
          refine lv_aload_n hx hb dX12_nameRead_57 rfl (lv_at hl 1 rfl) ?_
          refine vp_callSi (va_Run.run (va_runV (As := []) (rest := []) ⟨hx, hb, hml, hown, hT⟩ (f_letters l dC dI cy L kap pr S_142 H.size o hTy hT_o g nm (SK g sn sp) sn wr wa sen (nI (SK g sn sp)) pa ki rs ⟨MKi (sp := (SK g sn sp)) (sn := sn) (pa := pa) (ki := ki) hS_o rfl rfl rfl rfl rfl rfl (by omega) (by omega) (by omega) (by omega), inf_i hS_o rfl, inf_i hS_o rfl, inf_i hS_o rfl, fld_i hS_o rfl hS_x_118, lfd_i hS_o rfl hS_x_112⟩ (by omega) hg) (cwV 0 hT (gV w1207 w1209 ws58 w14 w1210) rfl rfl rfl (by decide +kernel) ⟨(Nat.le_of_ble_eq_true rfl), (Nat.le_of_ble_eq_true rfl)⟩) ⟨pcN.blind, pl_recv hK hW hT_o.1 hS_o rfl, pcN.pre hW.1 hK hW.2.1 hN (fun q h => absurd h List.not_mem_nil)⟩ rfl rfl hl.1 rfl (lv_room (Nat.le_of_ble_eq_true rfl)) dX12_nameRead_58 ⟨(Nat.le_of_ble_eq_true rfl), (Nat.le_of_ble_eq_true rfl)⟩)) (fun r_143 hr_143 => ?_)
          have hlb_ := LT_le (g := g) (n := sn) (i := SK g sn sp) (by omega)
          have hlg_ := LT_ge (g := g) (n := sn) (i := SK g sn sp)
          obtain rfl : r_143 = nI (LT g sn (SK g sn sp) - (SK g sn sp)) := hr_143
          refine lv_istore_n (lv' := [(3, .int (nI (LT g sn (SK g sn sp) - (SK g sn sp)))), (1, .long 0), (0, .ref o)]) hx hb dX12_nameRead_61 rfl hl (by decide) rfl (fun ls hl => ?_)
          refine lv_iconst (v := 0) hx hb dX12_nameRead_62 (by decide) ?_
          refine lv_istore (lv' := [(4, .int 0), (3, .int (nI (LT g sn (SK g sn sp) - (SK g sn sp)))), (1, .long 0), (0, .ref o)]) hx hb dX12_nameRead_63 hl (by decide) rfl (fun ls hl => ?_)
          have loop : ∀ (fuel : Nat) (i : Nat) (vl : Int64) (SS : Nat → va_E) (H : Heap) (locs : List Loc) (ls : Array Slot), 901 - i < fuel → (i ≤ 900) → (i ≤ LT g sn (SK g sn sp) - (SK g sn sp)) → (vl = encI g (SK g sn sp) i) → Ty cy L kap pr SS → Fr kap [12, 112] S SS → Fr kap [] S_142 SS → PW dC dI L (AL L s.heap.size) s.heap SS H locs → lv_has ls 5 [(4, .int (nI i)), (3, .int (nI (LT g sn (SK g sn sp) - (SK g sn sp)))), (1, .long vl), (0, .ref o)] → W p l e (headSpec (wT yX12_nameRead cX12_nameRead 5 (some .long)) { frames := 5, cells := 0, slots := 0, locals := 111 }).room s m [.ref o].toArray below meth c H locs 0 0 (MQ below (va_Ql (fun r S' => Ty cy L kap pr S' ∧ Fr kap [12, 112] S S' ∧ (∃ sp' wr' wa' ra', MF S' o g nm sp' sn wr' wa' sen ra' pa ki rs ∧ sp' ≤ sn ∧ ERR wr wa (nmc g sn sp) (SK g sn sp) wr' wa' ∧ (wr = 0 → nmc g sn sp = 0 → sp' = tke g sn sp ∧ ra' = nI (SK g sn sp) ∧ r = encI g (SK g sn sp) (tke g sn sp - SK g sn sp)))) (fun S' t => pB dC dI (AL L s.heap.size) (va_pl L S') (cyT cy) t) (AL L s.heap.size)) [.ref o].toArray s 0 0 (AL L s.heap.size)) (F0 m 65 ls []) := by
            intro fuel
            induction fuel with
            | zero => intro i vl SS H locs ls h; exact absurd h (Nat.not_lt_zero _)
            | succ fu65 ih65 =>
              intro i vl S_144 H locs ls hm65 hb_i hil hvl hTy hFr hFl65 hW hl
              have hS_x_10 := hFl65.at hT_x_10 (by decide) hS_x_10
              have hS_x_4 := hFl65.at hT_x_4 (by decide) hS_x_4
              have hS_x_45 := hFl65.at hT_x_45 (by decide) hS_x_45
              have hS_x_39 := hFl65.at hT_x_39 (by decide) hS_x_39
              have hS_o := hFl65.at hT_o (by decide) hS_o
              have hS_x_118 := hFl65.at hT_x_118 (by decide) hS_x_118
              have hS_x_112 := hFl65.at hT_x_112 (by decide) hS_x_112
              refine lv_iload hx hb dX12_nameRead_65 (lv_at hl 0 rfl) ?_
              refine lv_iload_n hx hb dX12_nameRead_67 rfl (lv_at hl 1 rfl) ?_
              refine lv_icmp_ge (tgt := 96) hx hb dX12_nameRead_68 (by decide) (fun c_68 => ?_) (fun c_68 => ?_)
              · have c_68 : (LT g sn (SK g sn sp) - (SK g sn sp)) ≤ i := (nI_leI (a := LT g sn (SK g sn sp) - (SK g sn sp)) (b := i) (by omega) (by omega)).mp c_68
                refine lv_aload_n hx hb dX12_nameRead_96 rfl (lv_at hl 3 rfl) ?_
                refine lv_dup hx hb dX12_nameRead_97 rfl ?_
                refine pl_get (ci := 12) (v := .int (nI (SK g sn sp))) (C := RX12) (T := TX12) (N := 32) hx hb hT iX12 hown hK hW hT_o.1 hS_o rfl 12 (by decide) w1094 rfl dX12_nameRead_98 ?_
                refine lv_iload_n hx hb dX12_nameRead_101 rfl (lv_at hl 1 rfl) ?_
                refine lv_iadd hx hb dX12_nameRead_102 ?_
                refine lv_topi (fun z_145 ez_145 => ?_)
                obtain rfl : z_145 = nI ((SK g sn sp) + (LT g sn (SK g sn sp) - (SK g sn sp))) := ez_145.trans (nI_add (SK g sn sp) (LT g sn (SK g sn sp) - (SK g sn sp)))
                refine pl_put (ci := 12) (v := .int (nI ((SK g sn sp) + (LT g sn (SK g sn sp) - (SK g sn sp))))) (ty := .int) (C := RX12) (T := TX12) (N := 32) (fs' := [.ref rs, .ref x_110, .ref x_111, .ref x_112, .ref x_113, .int (nI pa), .int (nI ki), .int (nI x_116), .int x_117, .ref x_118, .int (nI (pr.2)), .int (nI sn), .int (nI ((SK g sn sp) + (LT g sn (SK g sn sp) - (SK g sn sp)))), .int wr, .int wa, .int sen, .int (nI (SK g sn sp)), .ref x_125, .ref x_126, .int (nI x_127), .ref x_128, .ref x_129, .ref x_130, .ref x_131, .ref x_132, .ref x_133, .ref x_134, .ref x_135, .ref x_136, .ref x_137, .ref x_138, .int (nI x_139)]) hx hb hT iX12 tyX12 tyX12_ok nmX12 hown hK hW hT_o.1 hS_o rfl 12 (by decide) w1094 rfl (by decide +kernel) rfl rfl (Nat.le_of_ble_eq_true rfl) rfl dX12_nameRead_103 (fun H locs S_146 e1 hW => ?_)
                have hTy := hTy.u12 e1 hT_o ⟨rs, x_110, x_111, x_112, x_113, pa, ki, x_116, x_117, x_118, sn, (SK g sn sp) + (LT g sn (SK g sn sp) - (SK g sn sp)), wr, wa, sen, nI (SK g sn sp), x_125, x_126, x_127, x_128, x_129, x_130, x_131, x_132, x_133, x_134, x_135, x_136, x_137, x_138, x_139, rfl, hT_x_1, hT_x_110, hT_x_111, hT_x_112, hT_x_113, (by omega), (by omega), (by omega), hT_x_118, (by show pr.2 ≤ 900; omega), (by omega), (by omega), hT_x_125, hT_x_126, (by omega), hT_x_128, hT_x_129, hT_x_130, hT_x_131, hT_x_132, hT_x_133, hT_x_134, hT_x_135, hT_x_136, hT_x_137, hT_x_138, (by omega)⟩
                have hS_x_10 := un e1 hT_x_10 hT_o (by decide) hS_x_10
                have hS_x_4 := un e1 hT_x_4 hT_o (by decide) hS_x_4
                have hS_x_45 := un e1 hT_x_45 hT_o (by decide) hS_x_45
                have hS_x_39 := un e1 hT_x_39 hT_o (by decide) hS_x_39
                have hS_x_118 := un e1 hT_x_118 hT_o (by decide) hS_x_118
                have hS_x_112 := un e1 hT_x_112 hT_o (by decide) hS_x_112
                have hws := (show wrs (.inr (12, [.ref rs, .ref x_110, .ref x_111, .ref x_112, .ref x_113, .int (nI pa), .int (nI ki), .int (nI x_116), .int x_117, .ref x_118, .int (nI (pr.2)), .int (nI sn), .int (nI ((SK g sn sp) + (LT g sn (SK g sn sp) - (SK g sn sp)))), .int wr, .int wa, .int sen, .int (nI (SK g sn sp)), .ref x_125, .ref x_126, .int (nI x_127), .ref x_128, .ref x_129, .ref x_130, .ref x_131, .ref x_132, .ref x_133, .ref x_134, .ref x_135, .ref x_136, .ref x_137, .ref x_138, .int (nI x_139)])) = wrs (S_144 o) from by rw [hS_o]; rfl)
                have hFr := ufs hFr e1 hT_o (by decide) hws
                have hS_o := us e1
                refine lv_lload_n hx hb dX12_nameRead_106 rfl (lv_at hl 2 rfl) ?_
                exact W.lret (v := vl) hx hb hr (fun t ht h9 => ⟨⟨vl, S_146, rfl, ⟨hTy, hFr, ⟨(SK g sn sp) + (LT g sn (SK g sn sp) - (SK g sn sp)), _, _, _, ⟨MKi (sp := ((SK g sn sp) + (LT g sn (SK g sn sp) - (SK g sn sp)))) (sn := sn) (pa := pa) (ki := ki) hS_o rfl rfl rfl rfl rfl rfl (by omega) (by omega) (by omega) (by omega), inf_i hS_o rfl, inf_i hS_o rfl, inf_i hS_o rfl, fld_i hS_o rfl hS_x_118, lfd_i hS_o rfl hS_x_112⟩, by omega, by rw [show nmc g sn sp = 0 from if_pos htk.2.1]; exact ERR_0, fun _ _ => ⟨by rw [htk.2.2]; omega, rfl, by rw [htk.2.2, show LT g sn (SK g sn sp) - SK g sn sp = i from by omega]; exact hvl⟩⟩⟩, by rw [ht]; exact hW.1, va_K.moved h9.alike hK, hW.2.1⟩, hW.2.2.F ht⟩) hW.2.2.2.2 dX12_nameRead_107
              · have c_68 : ¬ ((LT g sn (SK g sn sp) - (SK g sn sp)) ≤ i) := fun hh9 => c_68 ((nI_leI (a := LT g sn (SK g sn sp) - (SK g sn sp)) (b := i) (by omega) (by omega)).mpr hh9)
                refine lv_lload_n hx hb dX12_nameRead_71 rfl (lv_at hl 2 rfl) ?_
                refine lv_bipush (v := 8) hx hb dX12_nameRead_72 (by decide) ?_
                refine lv_lshl hx hb dX12_nameRead_74 rfl ?_
                refine lv_topl (fun z_147 ez_147 => ?_)
                refine lv_aload_n hx hb dX12_nameRead_75 rfl (lv_at hl 3 rfl) ?_
                refine pl_get (ci := 12) (v := .ref x_118) (C := RX12) (T := TX12) (N := 32) hx hb hT iX12 hown hK hW hT_o.1 hS_o rfl 9 (by decide) w1091 rfl dX12_nameRead_76 ?_
                refine lv_aload_n hx hb dX12_nameRead_79 rfl (lv_at hl 3 rfl) ?_
                refine pl_get (ci := 12) (v := .int (nI (SK g sn sp))) (C := RX12) (T := TX12) (N := 32) hx hb hT iX12 hown hK hW hT_o.1 hS_o rfl 12 (by decide) w1094 rfl dX12_nameRead_80 ?_
                refine lv_iload hx hb dX12_nameRead_83 (lv_at hl 0 rfl) ?_
                refine lv_iadd hx hb dX12_nameRead_85 ?_
                refine lv_topi (fun z_148 ez_148 => ?_)
                obtain rfl : z_148 = nI ((SK g sn sp) + i) := ez_148.trans (nI_add (SK g sn sp) (i))
                refine pl_bald hx hb hK hW hT_x_118.1 hS_x_118 (vp_in_nI (n := (SK g sn sp) + i) (N := 900) (by omega) (by omega)) dX12_nameRead_86 ?_
                refine lv_topi (fun y_149 ey_149 => ?_)
                refine lv_i2l hx hb dX12_nameRead_87 rfl ?_
                refine lv_topl (fun z_150 ez_150 => ?_)
                refine lv_lor hx hb dX12_nameRead_88 ?_
                refine lv_topl (fun z_151 ez_151 => ?_)
                refine lv_lstore_n (lv' := [(1, .long z_151), (4, .int (nI i)), (3, .int (nI (LT g sn (SK g sn sp) - (SK g sn sp)))), (0, .ref o)]) hx hb dX12_nameRead_89 rfl hl (by decide) rfl (fun ls hl => ?_)
                refine lv_iinc (v := nI (i + 1)) (lv' := [(4, .int (nI (i + 1))), (1, .long z_151), (3, .int (nI (LT g sn (SK g sn sp) - (SK g sn sp)))), (0, .ref o)]) hx hb dX12_nameRead_90 hl (k := 1) rfl (nI_add (i) 1) (by decide) rfl (fun ls hl => ?_)
                refine lv_goto (tgt := 65) hx hb dX12_nameRead_93 (by decide) ?_
                exact ih65 (i + 1) z_151 _ _ _ ls (by omega) (by omega) (by omega) (by rw [ez_151, ez_147, hvl, ez_150, ey_149, nI_clamp (by omega)]; rfl) hTy hFr hFl65 hW (lv_sub hl [0, 2, 1, 3] rfl)
          exact loop ((901 - 0) + 1) 0 0 _ _ _ ls (Nat.lt_succ_self _) (by omega) (by omega) rfl hTy hFr Fr.rf hW (lv_sub hl [0, 1, 2, 3] rfl)
        · refine lv_aload_n hx hb dX12_nameRead_36 rfl (lv_at hl 0 rfl) ?_
          refine lv_iconst (v := 1) hx hb dX12_nameRead_37 (by decide) ?_
          refine lv_aload_n hx hb dX12_nameRead_38 rfl (lv_at hl 0 rfl) ?_
          refine pl_get (ci := 12) (v := .int (nI (SK g sn sp))) (C := RX12) (T := TX12) (N := 32) hx hb hT iX12 hown hK hW hT_o.1 hS_o rfl 12 (by decide) w1094 rfl dX12_nameRead_39 ?_
          refine pl_callv (va_runV (As := [.int 1, .int (nI (SK g sn sp))]) (rest := []) ⟨hx, hb, hml, hown, hT⟩ (f_fails l dC dI cy L kap pr S_106 H.size o 1 (nI (SK g sn sp)) hTy hT_o g nm (SK g sn sp) sn wr wa sen ra pa ki rs ⟨MKi (sp := (SK g sn sp)) (sn := sn) (pa := pa) (ki := ki) hS_o rfl rfl rfl rfl rfl rfl (by omega) (by omega) (by omega) (by omega), inf_i hS_o rfl, inf_i hS_o rfl, inf_i hS_o rfl, fld_i hS_o rfl hS_x_118, lfd_i hS_o rfl hS_x_112⟩ (by omega) hg) (cwV 2 hT (gV w1214 w1216 ws59 w14 w1217) rfl rfl rfl (by decide +kernel) ⟨(Nat.le_of_ble_eq_true rfl), (Nat.le_of_ble_eq_true rfl)⟩) ⟨pcN.blind, pl_recv hK hW hT_o.1 hS_o rfl, pcN.pre hW.1 hK hW.2.1 hN (fun q h => absurd h List.not_mem_nil)⟩ rfl rfl hl.1 rfl (lv_room (Nat.le_of_ble_eq_true rfl)) dX12_nameRead_42 ⟨(Nat.le_of_ble_eq_true rfl), (Nat.le_of_ble_eq_true rfl)⟩) hW hA0 hA (fun S_152 H locs hrel hW => ?_)
          obtain ⟨hTy, hF1, hx1⟩ := hrel
          have hFr := hFr.tr hF1 (by decide)
          have hS_x_10 := hF1.at hT_x_10 (by decide) hS_x_10
          have hS_x_4 := hF1.at hT_x_4 (by decide) hS_x_4
          have hS_x_45 := hF1.at hT_x_45 (by decide) hS_x_45
          have hS_x_39 := hF1.at hT_x_39 (by decide) hS_x_39
          have hS_x_118 := hF1.at hT_x_118 (by decide) hS_x_118
          have hS_x_112 := hF1.at hT_x_112 (by decide) hS_x_112
          obtain ⟨wr153, wa153, hM153, hfa153, hfb153⟩ := hx1
          obtain ⟨x_154, x_155, x_156, x_157, x_158, x_159, x_160, x_161, x_162, x_163, x_164, x_165, x_166, x_167, x_168, x_169, x_170, x_171, x_172, x_173, x_174, x_175, x_176, x_177, x_178, x_179, x_180, x_181, x_182, x_183, x_184, hS_o, hT_x_154, hT_x_155, hT_x_156, hT_x_157, hT_x_158, hb_x_159, hb_x_160, hb_x_161, hT_x_163, hb_q2, hb_x_164, hb_x_165, hT_x_170, hT_x_171, hb_x_172, hT_x_173, hT_x_174, hT_x_175, hT_x_176, hT_x_177, hT_x_178, hT_x_179, hT_x_180, hT_x_181, hT_x_182, hT_x_183, hb_x_184⟩ := hTy.k12 hT_o
          have hb_q2 : pr.2 ≤ 900 := hb_q2
          have hS_o : S_152 o = .inr (12, [.ref x_154, .ref x_155, .ref x_156, .ref x_157, .ref x_158, .int (nI x_159), .int (nI x_160), .int (nI x_161), .int x_162, .ref x_163, .int (nI (pr.2)), .int (nI x_164), .int (nI x_165), .int x_166, .int x_167, .int x_168, .int x_169, .ref x_170, .ref x_171, .int (nI x_172), .ref x_173, .ref x_174, .ref x_175, .ref x_176, .ref x_177, .ref x_178, .ref x_179, .ref x_180, .ref x_181, .ref x_182, .ref x_183, .int (nI x_184)]) := hS_o
          obtain ⟨hMK_, h14_, h15_, h16_, h9_, h3_⟩ := hM153
          obtain ⟨e12_, e11_, e13_, e5_, e6_, e0_⟩ := MKe hMK_ hS_o rfl rfl rfl rfl rfl rfl (by omega) (by omega) (by omega) (by omega)
          subst e12_ e11_ e13_ e5_ e6_ e0_
          have e14_ := h14_.symm.trans (inf_i hS_o rfl)
          subst e14_
          have e15_ := h15_.symm.trans (inf_i hS_o rfl)
          subst e15_
          have e16_ := h16_.symm.trans (inf_i hS_o rfl)
          subst e16_
          obtain ⟨f_185, hS_x_163⟩ := hTy.k55 hT_x_163
          have e9_ := h9_.symm.trans (fld_i hS_o rfl hS_x_163)
          subst e9_
          obtain ⟨f_186, hS_x_157⟩ := hTy.k53 hT_x_157
          have e3_ := h3_.symm.trans (lfd_i hS_o rfl hS_x_157)
          subst e3_
          refine lv_lconst (v := 0) hx hb dX12_nameRead_45 (by decide) ?_
          exact W.lret (v := 0) hx hb hr (fun t ht h9 => ⟨⟨0, S_152, rfl, ⟨hTy, hFr, ⟨SK g sn sp, _, _, _, ⟨MKi (sp := (SK g sn sp)) (sn := sn) (pa := pa) (ki := ki) hS_o rfl rfl rfl rfl rfl rfl (by omega) (by omega) (by omega) (by omega), inf_i hS_o rfl, inf_i hS_o rfl, inf_i hS_o rfl, fld_i hS_o rfl hS_x_163, lfd_i hS_o rfl hS_x_157⟩, by omega, by rw [show nmc g sn sp = 1 from if_neg (tk4_w hg (by omega) (by rw [← hpk_]; exact hL_16) (by rw [← hrw_]; exact c_33))]; exact ERR_e c_4 (by decide) (hfb153 c_4), fun _ z => absurd z (by rw [show nmc g sn sp = 1 from if_neg (tk4_w hg (by omega) (by rw [← hpk_]; exact hL_16) (by rw [← hrw_]; exact c_33))]; decide)⟩⟩, by rw [ht]; exact hW.1, va_K.moved h9.alike hK, hW.2.1⟩, hW.2.2.F ht⟩) hW.2.2.2.2 dX12_nameRead_46
    · obtain ⟨rfl, hL_16⟩ := hc_
      refine lv_if_eq (tgt := 36) hx hb dX12_nameRead_16 (by decide) (fun _ => ?_) (fun h => absurd (by decide) h)
      refine lv_aload_n hx hb dX12_nameRead_36 rfl (lv_at hl 0 rfl) ?_
      refine lv_iconst (v := 1) hx hb dX12_nameRead_37 (by decide) ?_
      refine lv_aload_n hx hb dX12_nameRead_38 rfl (lv_at hl 0 rfl) ?_
      refine pl_get (ci := 12) (v := .int (nI (SK g sn sp))) (C := RX12) (T := TX12) (N := 32) hx hb hT iX12 hown hK hW hT_o.1 hS_o rfl 12 (by decide) w1094 rfl dX12_nameRead_39 ?_
      refine pl_callv (va_runV (As := [.int 1, .int (nI (SK g sn sp))]) (rest := []) ⟨hx, hb, hml, hown, hT⟩ (f_fails l dC dI cy L kap pr S_34 H.size o 1 (nI (SK g sn sp)) hTy hT_o g nm (SK g sn sp) sn wr wa sen ra pa ki rs ⟨MKi (sp := (SK g sn sp)) (sn := sn) (pa := pa) (ki := ki) hS_o rfl rfl rfl rfl rfl rfl (by omega) (by omega) (by omega) (by omega), inf_i hS_o rfl, inf_i hS_o rfl, inf_i hS_o rfl, fld_i hS_o rfl hS_x_45, lfd_i hS_o rfl hS_x_39⟩ (by omega) hg) (cwV 2 hT (gV w1214 w1216 ws59 w14 w1217) rfl rfl rfl (by decide +kernel) ⟨(Nat.le_of_ble_eq_true rfl), (Nat.le_of_ble_eq_true rfl)⟩) ⟨pcN.blind, pl_recv hK hW hT_o.1 hS_o rfl, pcN.pre hW.1 hK hW.2.1 hN (fun q h => absurd h List.not_mem_nil)⟩ rfl rfl hl.1 rfl (lv_room (Nat.le_of_ble_eq_true rfl)) dX12_nameRead_42 ⟨(Nat.le_of_ble_eq_true rfl), (Nat.le_of_ble_eq_true rfl)⟩) hW hA0 hA (fun S_187 H locs hrel hW => ?_)
      obtain ⟨hTy, hF1, hx1⟩ := hrel
      have hFr := hFr.tr hF1 (by decide)
      have hS_x_10 := hF1.at hT_x_10 (by decide) hS_x_10
      have hS_x_4 := hF1.at hT_x_4 (by decide) hS_x_4
      have hS_x_45 := hF1.at hT_x_45 (by decide) hS_x_45
      have hS_x_39 := hF1.at hT_x_39 (by decide) hS_x_39
      obtain ⟨wr188, wa188, hM188, hfa188, hfb188⟩ := hx1
      obtain ⟨x_189, x_190, x_191, x_192, x_193, x_194, x_195, x_196, x_197, x_198, x_199, x_200, x_201, x_202, x_203, x_204, x_205, x_206, x_207, x_208, x_209, x_210, x_211, x_212, x_213, x_214, x_215, x_216, x_217, x_218, x_219, hS_o, hT_x_189, hT_x_190, hT_x_191, hT_x_192, hT_x_193, hb_x_194, hb_x_195, hb_x_196, hT_x_198, hb_q2, hb_x_199, hb_x_200, hT_x_205, hT_x_206, hb_x_207, hT_x_208, hT_x_209, hT_x_210, hT_x_211, hT_x_212, hT_x_213, hT_x_214, hT_x_215, hT_x_216, hT_x_217, hT_x_218, hb_x_219⟩ := hTy.k12 hT_o
      have hb_q2 : pr.2 ≤ 900 := hb_q2
      have hS_o : S_187 o = .inr (12, [.ref x_189, .ref x_190, .ref x_191, .ref x_192, .ref x_193, .int (nI x_194), .int (nI x_195), .int (nI x_196), .int x_197, .ref x_198, .int (nI (pr.2)), .int (nI x_199), .int (nI x_200), .int x_201, .int x_202, .int x_203, .int x_204, .ref x_205, .ref x_206, .int (nI x_207), .ref x_208, .ref x_209, .ref x_210, .ref x_211, .ref x_212, .ref x_213, .ref x_214, .ref x_215, .ref x_216, .ref x_217, .ref x_218, .int (nI x_219)]) := hS_o
      obtain ⟨hMK_, h14_, h15_, h16_, h9_, h3_⟩ := hM188
      obtain ⟨e12_, e11_, e13_, e5_, e6_, e0_⟩ := MKe hMK_ hS_o rfl rfl rfl rfl rfl rfl (by omega) (by omega) (by omega) (by omega)
      subst e12_ e11_ e13_ e5_ e6_ e0_
      have e14_ := h14_.symm.trans (inf_i hS_o rfl)
      subst e14_
      have e15_ := h15_.symm.trans (inf_i hS_o rfl)
      subst e15_
      have e16_ := h16_.symm.trans (inf_i hS_o rfl)
      subst e16_
      obtain ⟨f_220, hS_x_198⟩ := hTy.k55 hT_x_198
      have e9_ := h9_.symm.trans (fld_i hS_o rfl hS_x_198)
      subst e9_
      obtain ⟨f_221, hS_x_192⟩ := hTy.k53 hT_x_192
      have e3_ := h3_.symm.trans (lfd_i hS_o rfl hS_x_192)
      subst e3_
      refine lv_lconst (v := 0) hx hb dX12_nameRead_45 (by decide) ?_
      exact W.lret (v := 0) hx hb hr (fun t ht h9 => ⟨⟨0, S_187, rfl, ⟨hTy, hFr, ⟨SK g sn sp, _, _, _, ⟨MKi (sp := (SK g sn sp)) (sn := sn) (pa := pa) (ki := ki) hS_o rfl rfl rfl rfl rfl rfl (by omega) (by omega) (by omega) (by omega), inf_i hS_o rfl, inf_i hS_o rfl, inf_i hS_o rfl, fld_i hS_o rfl hS_x_198, lfd_i hS_o rfl hS_x_192⟩, by omega, by rw [show nmc g sn sp = 1 from if_neg (tk4_n hg (by omega) (by rw [← hpk_]; exact hL_16))]; exact ERR_e c_4 (by decide) (hfb188 c_4), fun _ z => absurd z (by rw [show nmc g sn sp = 1 from if_neg (tk4_n hg (by omega) (by rw [← hpk_]; exact hL_16))]; decide)⟩⟩, by rw [ht]; exact hW.1, va_K.moved h9.alike hK, hW.2.1⟩, hW.2.2.F ht⟩) hW.2.2.2.2 dX12_nameRead_46
  · refine lv_lconst (v := 0) hx hb dX12_nameRead_7 (by decide) ?_
    exact W.lret (v := 0) hx hb hr (fun t ht h9 => ⟨⟨0, S, rfl, ⟨hTy, hFr, ⟨sp, _, _, _, ⟨MKi (sp := sp) (sn := sn) (pa := pa) (ki := ki) hS_o rfl rfl rfl rfl rfl rfl (by omega) (by omega) (by omega) (by omega), inf_i hS_o rfl, inf_i hS_o rfl, inf_i hS_o rfl, fld_i hS_o rfl hS_x_10, lfd_i hS_o rfl hS_x_4⟩, by omega, ERR_k c_4, fun z => absurd z c_4⟩⟩, by rw [ht]; exact hW.1, va_K.moved h9.alike hK, hW.2.1⟩, hW.2.2.F ht⟩) hW.2.2.2.2 dX12_nameRead_8

set_option maxHeartbeats 4000000 in
set_option maxRecDepth 100000 in
theorem f_find (l : Launch) (dC : Nat → ClassId) (dI : Nat → Nat → Nat) (cy : Nat → ClassId) (L : List Nat) (kap : Nat → Nat) (pr : Pr) (S : Nat → va_E) (sz : Nat) (o : Nat) (vn : Int64) (fr : Nat) (mn : Nat) (hTy : Ty cy L kap pr S) (hT_o : TK L kap o 12) (hb_fr : fr ≤ 8) (hb_mn : fr + mn ≤ 12) (nm : Nat → Int64) (h3 : lfd S o 3 = nm) : Met l yX12_find (wT yX12_find cX12_find 6 (some .int)) ({ frames := 0, cells := 0, slots := 0, locals := 0 }) (pcN dC dI [.ref o, .long vn, .int (nI fr), .int (nI mn)] sz (va_pl L S) (cyT cy) NLs []) (vp_Si (fun r => FDR nm fr mn vn r)) 0 0 (fun _ => False) := by
  refine Met.ofW (cc := cX12_find) (maxL := 6) (ret := (some .int)) (by decide) rfl ?_
  intro p e s m args below meth c s₁ B hml hv
  obtain ⟨rfl, hsz, hP, hK, hD0, hN, -⟩ := hv
  have hx := B.exec
  have hb := B.bytes
  have hr := B.returns
  have hT : ∀ wd ∈ TB, wd.before [.ref o, .long vn, .int (nI fr), .int (nI mn)].toArray s = true := fun wd h => atoms_spec (ws := wT yX12_find cX12_find 6 (some .int)) B.pre wd (List.mem_cons_of_mem _ h)
  have hown : s.vm.findClass RX12 = some m.cls := findClass_of_methodNamed B.named
  have hlocks := B.notSynchronized
  subst hsz
  have hW : PW dC dI L (AL L s.heap.size) s.heap S s.heap [] := ⟨hP, pl_self hD0, va_S.rf⟩
  have hFr : Fr kap [] S S := Fr.rf
  have hl := lv_entry ([.ref o, .long vn, .int (nI fr), .int (nI mn)]) (n := 6) (Nat.le_of_ble_eq_true rfl)
  rw [lg_entry_eq]
  generalize (lg_sl ([.ref o, .long vn, .int (nI fr), .int (nI mn)]) ++ List.replicate (6 - (lg_sl ([.ref o, .long vn, .int (nI fr), .int (nI mn)])).length) Slot.unset).toArray = ls at hl ⊢
  have hl : lv_has ls 6 [(0, .ref o), (1, .long vn), (3, .int (nI fr)), (4, .int (nI mn))] := hl
  obtain ⟨x_1, x_2, x_3, x_4, x_5, x_6, x_7, x_8, x_9, x_10, x_11, x_12, x_13, x_14, x_15, x_16, x_17, x_18, x_19, x_20, x_21, x_22, x_23, x_24, x_25, x_26, x_27, x_28, x_29, x_30, x_31, hS_o, hT_x_1, hT_x_2, hT_x_3, hT_x_4, hT_x_5, hb_x_6, hb_x_7, hb_x_8, hT_x_10, hb_q2, hb_x_11, hb_x_12, hT_x_17, hT_x_18, hb_x_19, hT_x_20, hT_x_21, hT_x_22, hT_x_23, hT_x_24, hT_x_25, hT_x_26, hT_x_27, hT_x_28, hT_x_29, hT_x_30, hb_x_31⟩ := hTy.k12 hT_o
  have hb_q2 : pr.2 ≤ 900 := hb_q2
  have hS_o : S o = .inr (12, [.ref x_1, .ref x_2, .ref x_3, .ref x_4, .ref x_5, .int (nI x_6), .int (nI x_7), .int (nI x_8), .int x_9, .ref x_10, .int (nI (pr.2)), .int (nI x_11), .int (nI x_12), .int x_13, .int x_14, .int x_15, .int x_16, .ref x_17, .ref x_18, .int (nI x_19), .ref x_20, .ref x_21, .ref x_22, .ref x_23, .ref x_24, .ref x_25, .ref x_26, .ref x_27, .ref x_28, .ref x_29, .ref x_30, .int (nI x_31)]) := hS_o
  obtain ⟨f_32, hS_x_4⟩ := hTy.k53 hT_x_4
  have e3_ := h3.symm.trans (lfd_i hS_o rfl hS_x_4)
  subst e3_
  refine lv_iconst (v := 0) hx hb dX12_find_0 (by decide) ?_
  refine lv_istore (lv' := [(5, .int 0), (0, .ref o), (1, .long vn), (3, .int (nI fr)), (4, .int (nI mn))]) hx hb dX12_find_1 hl (by decide) rfl (fun ls hl => ?_)
  have loop : ∀ (fuel : Nat) (i : Nat) (ls : Array Slot), 13 - i < fuel → (i ≤ 12) → (∀ j, j < i → nm (fr + j) ≠ vn) → lv_has ls 6 [(5, .int (nI i)), (0, .ref o), (1, .long vn), (3, .int (nI fr)), (4, .int (nI mn))] → W p l e (headSpec (wT yX12_find cX12_find 6 (some .int)) { frames := 0, cells := 0, slots := 0, locals := 0 }).room s m [.ref o, .long vn, .int (nI fr), .int (nI mn)].toArray below meth c s.heap [] 0 0 (MQ below (vp_Si (fun r => FDR nm fr mn vn r)) [.ref o, .long vn, .int (nI fr), .int (nI mn)].toArray s 0 0 (fun _ => False)) (F0 m 3 ls []) := by
    intro fuel
    induction fuel with
    | zero => intro i ls h; exact absurd h (Nat.not_lt_zero _)
    | succ fu3 ih3 =>
      intro i ls hm3 hb_i hnf hl
      refine lv_iload hx hb dX12_find_3 (lv_at hl 0 rfl) ?_
      refine lv_iload hx hb dX12_find_5 (lv_at hl 4 rfl) ?_
      refine lv_icmp_ge (tgt := 33) hx hb dX12_find_7 (by decide) (fun c_7 => ?_) (fun c_7 => ?_)
      · have c_7 : mn ≤ i := (nI_leI (a := mn) (b := i) (by omega) (by omega)).mp c_7
        refine lv_iconst (v := (-1)) hx hb dX12_find_33 (by decide) ?_
        exact W.iret (v := (-1)) hx hb hr (fun t ht h9 => ⟨(-1), rfl, Or.inl ⟨rfl, fun k hk => hnf k (by omega)⟩, ht⟩) (fun q h => by cases h) dX12_find_34
      · have c_7 : ¬ (mn ≤ i) := fun hh9 => c_7 ((nI_leI (a := mn) (b := i) (by omega) (by omega)).mpr hh9)
        refine lv_aload_n hx hb dX12_find_10 rfl (lv_at hl 1 rfl) ?_
        refine pl_get (ci := 12) (v := .ref x_4) (C := RX12) (T := TX12) (N := 32) hx hb hT iX12 hown hK hW hT_o.1 hS_o rfl 3 (by decide) w1085 rfl dX12_find_11 ?_
        refine lv_iload_n hx hb dX12_find_14 rfl (lv_at hl 3 rfl) ?_
        refine lv_iload hx hb dX12_find_15 (lv_at hl 0 rfl) ?_
        refine lv_iadd hx hb dX12_find_17 ?_
        refine lv_topi (fun z_33 ez_33 => ?_)
        obtain rfl : z_33 = nI (fr + i) := ez_33.trans (nI_add (fr) (i))
        refine pl_lald hx hb hK hW hT_x_4.1 hS_x_4 (vp_in_nI (n := fr + i) (N := 12) (by omega) (by omega)) dX12_find_18 ?_
        refine lv_topl (fun y_34 ey_34 => ?_)
        refine lv_lload_n hx hb dX12_find_19 rfl (lv_at hl 2 rfl) ?_
        refine W.lcmp hx hb dX12_find_20 ?_
        refine lv_if_ne (tgt := 27) hx hb dX12_find_21 (by decide) (fun c_21 => ?_) (fun c_21 => ?_)
        · have hne_ : nm (fr + i) ≠ vn := by have q := cmp_n c_21; rw [ey_34, nI_clamp (by omega)] at q; exact q
          refine lv_iinc (v := nI (i + 1)) (lv' := [(5, .int (nI (i + 1))), (0, .ref o), (1, .long vn), (3, .int (nI fr)), (4, .int (nI mn))]) hx hb dX12_find_27 hl (k := 0) rfl (nI_add (i) 1) (by decide) rfl (fun ls hl => ?_)
          refine lv_goto (tgt := 3) hx hb dX12_find_30 (by decide) ?_
          exact ih3 (i + 1) ls (by omega) (by omega) (fun j hj => by by_cases e_ : j = i; rw [e_]; exact fun z => hne_ z; exact hnf j (by omega)) (lv_sub hl [0, 1, 2, 3, 4] rfl)
        · refine lv_iload hx hb dX12_find_24 (lv_at hl 0 rfl) ?_
          exact W.iret (v := nI i) hx hb hr (fun t ht h9 => ⟨nI i, rfl, Or.inr ⟨i, by omega, rfl, by have q := cmp_0 c_21; rw [ey_34, nI_clamp (by omega)] at q; exact q, hnf⟩, ht⟩) (fun q h => by cases h) dX12_find_26
  exact loop ((13 - 0) + 1) 0 ls (Nat.lt_succ_self _) (by omega) (fun j h => absurd h (Nat.not_lt_zero _)) (lv_sub hl [0, 1, 2, 3, 4] rfl)

