/-! the lines of a text, one after another: (code, place, trades) -/
def RN (g : Nat → Int32) (n : Nat) : Nat → (Nat → Nat × Nat) → Nat → Nat → Nat → (Nat → Bool) → Bool → Nat → Nat × Nat × Nat
  | 0, _, _, _, mn, _, _, _ => (0, 0, mn)
  | f + 1, df, np, nk, mn, kf, md, p => if SK g n p < n then (if (EL g n df np nk mn kf md (SK g n p)).1 = 0 then RN g n f (Ndf g n (tkc g n (SK g n p) - 5) np nk df (tke g n (SK g n p))) (Nnp (tkc g n (SK g n p) - 5) np) (Nnk (tkc g n (SK g n p) - 5) nk) (Nmn (tkc g n (SK g n p) - 5) mn) (Nkf g n (tkc g n (SK g n p) - 5) mn kf (tke g n (SK g n p))) (Nmd (tkc g n (SK g n p) - 5) md) (PLn g n (SK g n p)) else ((EL g n df np nk mn kf md (SK g n p)).1, (EL g n df np nk mn kf md (SK g n p)).2, 0)) else (0, 0, mn)
/-- the whole text -/
def TX (g : Nat → Int32) (n : Nat) : Nat × Nat × Nat := RN g n 902 (fun _ => (0, 0)) 0 0 0 (fun _ => false) false 0
section RUN
variable {g : Nat → Int32} {n np nk mn p f : Nat} {df : Nat → Nat × Nat} {kf : Nat → Bool} {md : Bool}
theorem RN_e (h : ¬ SK g n p < n) : RN g n f df np nk mn kf md p = (0, 0, mn) := by
  cases f with
  | zero => rfl
  | succ f => exact if_neg h
theorem RN_s (h : SK g n p < n) (he : (EL g n df np nk mn kf md (SK g n p)).1 = 0) : RN g n (f + 1) df np nk mn kf md p = RN g n f (Ndf g n (tkc g n (SK g n p) - 5) np nk df (tke g n (SK g n p))) (Nnp (tkc g n (SK g n p) - 5) np) (Nnk (tkc g n (SK g n p) - 5) nk) (Nmn (tkc g n (SK g n p) - 5) mn) (Nkf g n (tkc g n (SK g n p) - 5) mn kf (tke g n (SK g n p))) (Nmd (tkc g n (SK g n p) - 5) md) (PLn g n (SK g n p)) := (if_pos h).trans (if_pos he)
theorem RN_n (h : SK g n p < n) (he : ¬ (EL g n df np nk mn kf md (SK g n p)).1 = 0) : RN g n (f + 1) df np nk mn kf md p = ((EL g n df np nk mn kf md (SK g n p)).1, (EL g n df np nk mn kf md (SK g n p)).2, 0) := (if_pos h).trans (if_neg he)
theorem PLn_lt (he : (EL g n df np nk mn kf md p).1 = 0) (hp : p ≤ n) (hn : n ≤ 900) : p < PLn g n p := by
  unfold EL at he
  by_cases h1 : tkc g n p < 5 ∨ (tkc g n p - 5 = 5 ∧ md = true)
  · rw [if_pos h1] at he
    exact absurd (show (1 : Nat) = 0 from he) (by decide)
  · rw [if_neg h1] at he
    by_cases h2 : FLb (tkc g n p - 5) np nk mn = true
    · rw [if_pos h2] at he
      exact absurd (show (4 : Nat) = 0 from he) (by decide)
    · rw [if_neg h2] at he
      have e := (fe_0 he).2
      unfold ES at e
      by_cases h3 : tkc g n (PB g n (tkc g n p - 5) (tke g n p)) = 2
      · have q1 := tke_i (g := g) hp hn
        have q2 := PB_i (g := g) (w := tkc g n p - 5) q1.2 hn
        have q3 := SK_ge (g := g) (n := n) (i := PB g n (tkc g n p - 5) (tke g n p))
        unfold PLn
        rw [tk2_e h3]
        omega
      · rw [if_neg h3] at e
        exact absurd (show (1 : Nat) = 0 from e) (by decide)
theorem PK_m (hg : BR g) (hn : n ≤ 900) : PK g n p = -1 ↔ ¬ SK g n p < n := by
  unfold PK
  by_cases h : SK g n p < n
  · rw [if_pos h]
    refine ⟨fun z => ?_, fun z => absurd h z⟩
    have q := by_255 (hg (SK g n p) (by omega))
    have q2 := hg (SK g n p) (by omega)
    have e : (-1 : Int32).toInt = -1 := by decide
    rw [z, e] at q
    split at q <;> omega
  · rw [if_neg h]
    exact ⟨fun _ => h, fun _ => rfl⟩
end RUN
/-- between two lines -/
def RIN (g : Nat → Int32) (n : Nat) (a : Nat → Int32) (wr wa sen : Int32) (nm : Nat → Int64) (np nk sp gd : Nat) (df : Nat → Nat × Nat) (mn : Nat) (kf : Nat → Bool) : Prop := (wr = 0 ∧ wa = -1 ∧ sp ≤ n ∧ 902 ≤ gd + sp ∧ NMR g df nm 0 np ∧ NMR g df nm 8 nk ∧ SM a mn kf ∧ TX g n = RN g n gd df np nk mn kf (bt sen 5) sp) ∨ (wr ≠ 0 ∧ (TX g n).1 ≠ 0 ∧ wr = nI (TX g n).1 ∧ wa = nI (TX g n).2.1)
section RINS
variable {g : Nat → Int32} {n : Nat} {a a1 : Nat → Int32} {wr wa sen wr1 wa1 sen1 : Int32} {nm nm1 : Nat → Int64} {np nk sp gd np1 nk1 sp1 : Nat} {df : Nat → Nat × Nat} {mn : Nat} {kf : Nat → Bool}
theorem RIN_0 (h : a 0 = nI 0) : RIN g n a 0 (-1) 0 nm 0 0 0 902 (fun _ => (0, 0)) 0 (fun _ => false) := Or.inl ⟨rfl, rfl, Nat.zero_le _, Nat.le_refl _, fun k h => absurd h (Nat.not_lt_zero _), fun k h => absurd h (Nat.not_lt_zero _), ⟨h, Nat.zero_le _, fun t h => absurd h (Nat.not_lt_zero _)⟩, by rw [b_0]; rfl⟩
theorem RIN_g (h : RIN g n a wr wa sen nm np nk sp gd df mn kf) (h0 : wr = 0) : wa = -1 ∧ sp ≤ n ∧ 902 ≤ gd + sp ∧ NMR g df nm 0 np ∧ NMR g df nm 8 nk ∧ SM a mn kf ∧ TX g n = RN g n gd df np nk mn kf (bt sen 5) sp := by
  rcases h with ⟨-, h⟩ | ⟨h, -⟩
  · exact h
  · exact absurd h0 h
theorem RIN_s (h : RIN g n a wr wa sen nm np nk sp gd df mn kf) (h0 : wr = 0) (hn : n ≤ 900) (hs : SK g n sp < n) (hE : ERR wr wa (EL g n df np nk mn kf (bt sen 5) (SK g n sp)).1 (EL g n df np nk mn kf (bt sen 5) (SK g n sp)).2 wr1 wa1) (hO : (EL g n df np nk mn kf (bt sen 5) (SK g n sp)).1 = 0 → sp1 = PLn g n (SK g n sp) ∧ sp1 ≤ n ∧ np1 = Nnp (tkc g n (SK g n sp) - 5) np ∧ nk1 = Nnk (tkc g n (SK g n sp) - 5) nk ∧ NMR g (Ndf g n (tkc g n (SK g n sp) - 5) np nk df (tke g n (SK g n sp))) nm1 0 np1 ∧ NMR g (Ndf g n (tkc g n (SK g n sp) - 5) np nk df (tke g n (SK g n sp))) nm1 8 nk1 ∧ SM a1 (Nmn (tkc g n (SK g n sp) - 5) mn) (Nkf g n (tkc g n (SK g n sp) - 5) mn kf (tke g n (SK g n sp))) ∧ bt sen1 5 = Nmd (tkc g n (SK g n sp) - 5) (bt sen 5)) : RIN g n a1 wr1 wa1 sen1 nm1 np1 nk1 sp1 (gd - 1) (Ndf g n (tkc g n (SK g n sp) - 5) np nk df (tke g n (SK g n sp))) (Nmn (tkc g n (SK g n sp) - 5) mn) (Nkf g n (tkc g n (SK g n sp) - 5) mn kf (tke g n (SK g n sp))) := by
  obtain ⟨k1, k2, k3, k4, k5, k6, k7⟩ := RIN_g h h0
  obtain ⟨gd, rfl⟩ : ∃ d, gd = d + 1 := ⟨gd - 1, by omega⟩
  rw [Nat.add_sub_cancel]
  by_cases q : (EL g n df np nk mn kf (bt sen 5) (SK g n sp)).1 = 0
  · obtain ⟨o1, o2, o3, o4, o5, o6, o7, o8⟩ := hO q
    obtain ⟨e1, e2⟩ := ERR_z hE h0 q
    have hl := PLn_lt q (by omega) hn
    have hg := SK_ge (g := g) (n := n) (i := sp)
    refine Or.inl ⟨e1, e2.trans k1, o2, by omega, o5, o6, o7, ?_⟩
    rw [k7, RN_s hs q, o1, o3, o4, o8]
  · obtain ⟨e1, e2, e3⟩ := ERR_n hE h0 q EL_lt
    refine Or.inr ⟨e1, ?_⟩
    rw [k7, RN_n hs q]
    exact ⟨q, e2, e3⟩
end RINS
/-- what tell answers and leaves, by the text -/
def TLX (g : Nat → Int32) (t : Nat) (tn w0 a0 w1 a1 r : Int32) : Prop := ((tn < 0 ∨ nI t < tn) ∧ r = -3 ∧ w1 = w0 ∧ a1 = a0) ∨ ∃ k, tn = nI k ∧ k ≤ t ∧ w1 = nI (TX g k).1 ∧ (((TX g k).1 = 0 ∧ a1 = -1 ∧ r = nI (TX g k).2.2) ∨ ((TX g k).1 ≠ 0 ∧ a1 = nI (TX g k).2.1 ∧ r = -30 - nI (TX g k).1))
theorem TLX_o {g : Nat → Int32} {t : Nat} {tn w0 a0 : Int32} {z z2 : Int64} (hz : z = tn.toInt64) (hz2 : z2 = (nI t).toInt64) (h : ¬ (0 ≤ z ∧ z ≤ z2)) : TLX g t tn w0 a0 w0 a0 (-3) := by
  refine Or.inl ⟨?_, rfl, rfl, rfl⟩
  by_cases q : tn < 0
  · exact Or.inl q
  · refine Or.inr ?_
    subst hz hz2
    rw [Int64.le_iff_toInt_le, Int64.le_iff_toInt_le, Int32.toInt_toInt64, Int32.toInt_toInt64] at h
    rw [Int32.lt_iff_toInt_lt] at q ⊢
    have e0 : (0 : Int64).toInt = 0 := by decide
    have f0 : (0 : Int32).toInt = 0 := by decide
    omega

set_option maxHeartbeats 4000000 in
set_option maxRecDepth 100000 in
theorem f_plain (l : Launch) (dC : Nat → ClassId) (dI : Nat → Nat → Nat) (cy : Nat → ClassId) (L : List Nat) (kap : Nat → Nat) (pr : Pr) (S : Nat → va_E) (sz : Nat) (o : Nat) (hTy : Ty cy L kap pr S) (hT_o : TK L kap o 12) (g : Nat → Int32) (nm : Nat → Int64) (sp : Nat) (sn : Nat) (wr : Int32) (wa : Int32) (sen : Int32) (ra : Int32) (pa : Nat) (ki : Nat) (rs : Nat) (hM : MF S o g nm sp sn wr wa sen ra pa ki rs) (hsp : sp ≤ sn) (hg : BR g) : Met l yX12_plain (wT yX12_plain cX12_plain 2 none) ({ frames := 0, cells := 0, slots := 0, locals := 0 }) (pcN dC dI [.ref o] sz (va_pl L S) (cyT cy) NLs []) (va_Qv (fun S' => Ty cy L kap pr S' ∧ Fr kap [12, 50] S S' ∧ (MF S' o g nm sp sn wr wa sen ra 0 0 rs ∧ fld S' o 0 0 = nI 0)) (fun S' t => pB dC dI (AL L sz) (va_pl L S') (cyT cy) t) (AL L sz)) 0 0 (AL L sz) := by
  refine Met.ofW (cc := cX12_plain) (maxL := 2) (ret := none) (by decide) rfl ?_
  intro p e s m args below meth c s₁ B hml hv
  obtain ⟨rfl, hsz, hP, hK, hD0, hN, -⟩ := hv
  have hx := B.exec
  have hb := B.bytes
  have hr := B.returns
  have hT : ∀ wd ∈ TB, wd.before [.ref o].toArray s = true := fun wd h => atoms_spec (ws := wT yX12_plain cX12_plain 2 none) B.pre wd (List.mem_cons_of_mem _ h)
  have hown : s.vm.findClass RX12 = some m.cls := findClass_of_methodNamed B.named
  have hlocks := B.notSynchronized
  subst hsz
  have hW : PW dC dI L (AL L s.heap.size) s.heap S s.heap [] := ⟨hP, pl_self hD0, va_S.rf⟩
  have hA0 : ∀ q, q ∈ L → AL L s.heap.size q := fun _ h => Or.inl h
  have hA : ∀ q, s.heap.size ≤ q → AL L s.heap.size q := fun _ h => Or.inr h
  have hFr : Fr kap [12, 50] S S := Fr.rf
  have hl := lv_entry ([.ref o]) (n := 2) (Nat.le_of_ble_eq_true rfl)
  rw [lg_entry_eq]
  generalize (lg_sl ([.ref o]) ++ List.replicate (2 - (lg_sl ([.ref o])).length) Slot.unset).toArray = ls at hl ⊢
  have hl : lv_has ls 2 [(0, .ref o)] := hl
  obtain ⟨x_1, x_2, x_3, x_4, x_5, x_6, x_7, x_8, x_9, x_10, x_11, x_12, x_13, x_14, x_15, x_16, x_17, x_18, x_19, x_20, x_21, x_22, x_23, x_24, x_25, x_26, x_27, x_28, x_29, x_30, x_31, hS_o, hT_x_1, hT_x_2, hT_x_3, hT_x_4, hT_x_5, hb_x_6, hb_x_7, hb_x_8, hT_x_10, hb_q2, hb_x_11, hb_x_12, hT_x_17, hT_x_18, hb_x_19, hT_x_20, hT_x_21, hT_x_22, hT_x_23, hT_x_24, hT_x_25, hT_x_26, hT_x_27, hT_x_28, hT_x_29, hT_x_30, hb_x_31⟩ := hTy.k12 hT_o
  have hb_q2 : pr.2 ≤ 900 := hb_q2
  have hS_o : S o = .inr (12, [.ref x_1, .ref x_2, .ref x_3, .ref x_4, .ref x_5, .int (nI x_6), .int (nI x_7), .int (nI x_8), .int x_9, .ref x_10, .int (nI (pr.2)), .int (nI x_11), .int (nI x_12), .int x_13, .int x_14, .int x_15, .int x_16, .ref x_17, .ref x_18, .int (nI x_19), .ref x_20, .ref x_21, .ref x_22, .ref x_23, .ref x_24, .ref x_25, .ref x_26, .ref x_27, .ref x_28, .ref x_29, .ref x_30, .int (nI x_31)]) := hS_o
  obtain ⟨hMK_, h14_, h15_, h16_, h9_, h3_⟩ := hM
  obtain ⟨e12_, e11_, e13_, e5_, e6_, e0_⟩ := MKe hMK_ hS_o rfl rfl rfl rfl rfl rfl (by omega) (by omega) (by omega) (by omega)
  subst e12_ e11_ e13_ e5_ e6_ e0_
  have e14_ := h14_.symm.trans (inf_i hS_o rfl)
  subst e14_
  have e15_ := h15_.symm.trans (inf_i hS_o rfl)
  subst e15_
  have e16_ := h16_.symm.trans (inf_i hS_o rfl)
  subst e16_
  obtain ⟨f_32, hS_x_10⟩ := hTy.k55 hT_x_10
  have e9_ := h9_.symm.trans (fld_i hS_o rfl hS_x_10)
  subst e9_
  obtain ⟨f_33, hS_x_4⟩ := hTy.k53 hT_x_4
  have e3_ := h3_.symm.trans (lfd_i hS_o rfl hS_x_4)
  subst e3_
  refine lv_aload_n hx hb dX12_plain_0 rfl (lv_at hl 0 rfl) ?_
  refine lv_iconst (v := 0) hx hb dX12_plain_1 (by decide) ?_
  refine pl_put (ci := 12) (v := .int 0) (ty := .int) (C := RX12) (T := TX12) (N := 32) (fs' := [.ref rs, .ref x_2, .ref x_3, .ref x_4, .ref x_5, .int 0, .int (nI ki), .int (nI x_8), .int x_9, .ref x_10, .int (nI (pr.2)), .int (nI sn), .int (nI sp), .int wr, .int wa, .int sen, .int ra, .ref x_17, .ref x_18, .int (nI x_19), .ref x_20, .ref x_21, .ref x_22, .ref x_23, .ref x_24, .ref x_25, .ref x_26, .ref x_27, .ref x_28, .ref x_29, .ref x_30, .int (nI x_31)]) hx hb hT iX12 tyX12 tyX12_ok nmX12 hown hK hW hT_o.1 hS_o rfl 5 (by decide) w1087 rfl (by decide +kernel) rfl rfl (Nat.le_of_ble_eq_true rfl) rfl dX12_plain_2 (fun H locs S_34 e1 hW => ?_)
  have hTy := hTy.u12 e1 hT_o ⟨rs, x_2, x_3, x_4, x_5, 0, ki, x_8, x_9, x_10, sn, sp, wr, wa, sen, ra, x_17, x_18, x_19, x_20, x_21, x_22, x_23, x_24, x_25, x_26, x_27, x_28, x_29, x_30, x_31, rfl, hT_x_1, hT_x_2, hT_x_3, hT_x_4, hT_x_5, (by omega), (by omega), (by omega), hT_x_10, (by show pr.2 ≤ 900; omega), (by omega), (by omega), hT_x_17, hT_x_18, (by omega), hT_x_20, hT_x_21, hT_x_22, hT_x_23, hT_x_24, hT_x_25, hT_x_26, hT_x_27, hT_x_28, hT_x_29, hT_x_30, (by omega)⟩
  have hS_x_10 := un e1 hT_x_10 hT_o (by decide) hS_x_10
  have hS_x_4 := un e1 hT_x_4 hT_o (by decide) hS_x_4
  have hws := (show wrs (.inr (12, [.ref rs, .ref x_2, .ref x_3, .ref x_4, .ref x_5, .int 0, .int (nI ki), .int (nI x_8), .int x_9, .ref x_10, .int (nI (pr.2)), .int (nI sn), .int (nI sp), .int wr, .int wa, .int sen, .int ra, .ref x_17, .ref x_18, .int (nI x_19), .ref x_20, .ref x_21, .ref x_22, .ref x_23, .ref x_24, .ref x_25, .ref x_26, .ref x_27, .ref x_28, .ref x_29, .ref x_30, .int (nI x_31)])) = wrs (S o) from by rw [hS_o]; rfl)
  have hFr := ufs hFr e1 hT_o (by decide) hws
  have hS_o := us e1
  refine lv_aload_n hx hb dX12_plain_5 rfl (lv_at hl 0 rfl) ?_
  refine lv_iconst (v := 0) hx hb dX12_plain_6 (by decide) ?_
  refine pl_put (ci := 12) (v := .int 0) (ty := .int) (C := RX12) (T := TX12) (N := 32) (fs' := [.ref rs, .ref x_2, .ref x_3, .ref x_4, .ref x_5, .int 0, .int 0, .int (nI x_8), .int x_9, .ref x_10, .int (nI (pr.2)), .int (nI sn), .int (nI sp), .int wr, .int wa, .int sen, .int ra, .ref x_17, .ref x_18, .int (nI x_19), .ref x_20, .ref x_21, .ref x_22, .ref x_23, .ref x_24, .ref x_25, .ref x_26, .ref x_27, .ref x_28, .ref x_29, .ref x_30, .int (nI x_31)]) hx hb hT iX12 tyX12 tyX12_ok nmX12 hown hK hW hT_o.1 hS_o rfl 6 (by decide) w1088 rfl (by decide +kernel) rfl rfl (Nat.le_of_ble_eq_true rfl) rfl dX12_plain_7 (fun H locs S_35 e1 hW => ?_)
  have hTy := hTy.u12 e1 hT_o ⟨rs, x_2, x_3, x_4, x_5, 0, 0, x_8, x_9, x_10, sn, sp, wr, wa, sen, ra, x_17, x_18, x_19, x_20, x_21, x_22, x_23, x_24, x_25, x_26, x_27, x_28, x_29, x_30, x_31, rfl, hT_x_1, hT_x_2, hT_x_3, hT_x_4, hT_x_5, (by omega), (by omega), (by omega), hT_x_10, (by show pr.2 ≤ 900; omega), (by omega), (by omega), hT_x_17, hT_x_18, (by omega), hT_x_20, hT_x_21, hT_x_22, hT_x_23, hT_x_24, hT_x_25, hT_x_26, hT_x_27, hT_x_28, hT_x_29, hT_x_30, (by omega)⟩
  have hS_x_10 := un e1 hT_x_10 hT_o (by decide) hS_x_10
  have hS_x_4 := un e1 hT_x_4 hT_o (by decide) hS_x_4
  have hws := (show wrs (.inr (12, [.ref rs, .ref x_2, .ref x_3, .ref x_4, .ref x_5, .int 0, .int 0, .int (nI x_8), .int x_9, .ref x_10, .int (nI (pr.2)), .int (nI sn), .int (nI sp), .int wr, .int wa, .int sen, .int ra, .ref x_17, .ref x_18, .int (nI x_19), .ref x_20, .ref x_21, .ref x_22, .ref x_23, .ref x_24, .ref x_25, .ref x_26, .ref x_27, .ref x_28, .ref x_29, .ref x_30, .int (nI x_31)])) = wrs (S_34 o) from by rw [hS_o]; rfl)
  have hFr := ufs hFr e1 hT_o (by decide) hws
  have hS_o := us e1
  refine lv_iconst (v := 0) hx hb dX12_plain_10 (by decide) ?_
  refine lv_istore_n (lv' := [(1, .int 0), (0, .ref o)]) hx hb dX12_plain_11 rfl hl (by decide) rfl (fun ls hl => ?_)
  have loop : ∀ (fuel : Nat) (i : Nat) (SS : Nat → va_E) (H : Heap) (locs : List Loc) (ls : Array Slot), 267 - i < fuel → (i ≤ 266) → (0 < i → af (SS rs) 0 = nI 0) → Ty cy L kap pr SS → Fr kap [12, 50] S SS → Fr kap [50] S_35 SS → PW dC dI L (AL L s.heap.size) s.heap SS H locs → lv_has ls 2 [(1, .int (nI i)), (0, .ref o)] → W p l e (headSpec (wT yX12_plain cX12_plain 2 none) { frames := 0, cells := 0, slots := 0, locals := 0 }).room s m [.ref o].toArray below meth c H locs 0 0 (MQ below (va_Qv (fun S' => Ty cy L kap pr S' ∧ Fr kap [12, 50] S S' ∧ (MF S' o g nm sp sn wr wa sen ra 0 0 rs ∧ fld S' o 0 0 = nI 0)) (fun S' t => pB dC dI (AL L s.heap.size) (va_pl L S') (cyT cy) t) (AL L s.heap.size)) [.ref o].toArray s 0 0 (AL L s.heap.size)) (F0 m 12 ls []) := by
    intro fuel
    induction fuel with
    | zero => intro i SS H locs ls h; exact absurd h (Nat.not_lt_zero _)
    | succ fu12 ih12 =>
      intro i S_36 H locs ls hm12 hb_i hz0 hTy hFr hFl12 hW hl
      have hS_o := hFl12.at hT_o (by decide) hS_o
      have hS_x_10 := hFl12.at hT_x_10 (by decide) hS_x_10
      have hS_x_4 := hFl12.at hT_x_4 (by decide) hS_x_4
      obtain ⟨f_37, hS_rs, hi_f_37⟩ := hTy.k50 hT_x_1
      have hz1 : 0 < i → f_37 0 = nI 0 := fun h => by rw [← af_i hS_rs]; exact hz0 h
      refine lv_iload_n hx hb dX12_plain_12 rfl (lv_at hl 0 rfl) ?_
      refine lv_sipush (v := 266) hx hb dX12_plain_13 (by decide) ?_
      refine lv_icmp_ge (tgt := 44) hx hb dX12_plain_16 (by decide) (fun c_16 => ?_) (fun c_16 => ?_)
      · have c_16 : 266 ≤ i := (nI_leI (a := 266) (b := i) (by omega) (by omega)).mp c_16
        exact W.vret hx hb hr (fun t ht h9 => ⟨⟨S_36, rfl, ⟨hTy, hFr, ⟨⟨MKi (sp := sp) (sn := sn) (pa := 0) (ki := 0) hS_o rfl rfl rfl rfl rfl rfl (by omega) (by omega) (by omega) (by omega), inf_i hS_o rfl, inf_i hS_o rfl, inf_i hS_o rfl, fld_i hS_o rfl hS_x_10, lfd_i hS_o rfl hS_x_4⟩, by rw [fld_i hS_o rfl hS_rs, ← af_i hS_rs]; exact hz0 (by omega)⟩⟩, by rw [ht]; exact hW.1, va_K.moved h9.alike hK, hW.2.1⟩, hW.2.2.F ht⟩) hW.2.2.2.2 dX12_plain_44
      · have c_16 : ¬ (266 ≤ i) := fun hh9 => c_16 ((nI_leI (a := 266) (b := i) (by omega) (by omega)).mpr hh9)
        refine lv_aload_n hx hb dX12_plain_19 rfl (lv_at hl 1 rfl) ?_
        refine pl_get (ci := 12) (v := .ref rs) (C := RX12) (T := TX12) (N := 32) hx hb hT iX12 hown hK hW hT_o.1 hS_o rfl 0 (by decide) w1082 rfl dX12_plain_20 ?_
        refine lv_iload_n hx hb dX12_plain_23 rfl (lv_at hl 0 rfl) ?_
        refine lv_iload_n hx hb dX12_plain_24 rfl (lv_at hl 0 rfl) ?_
        refine lv_sipush (v := 202) hx hb dX12_plain_25 (by decide) ?_
        refine lv_icmp_ge (tgt := 35) hx hb dX12_plain_28 (by decide) (fun c_28 => ?_) (fun c_28 => ?_)
        · have c_28 : 202 ≤ i := (nI_leI (a := 202) (b := i) (by omega) (by omega)).mp c_28
          refine lv_ldc (v := 99999999) hx hb hown (hT _ w1081) dX12_plain_35 ?_
          refine pl_iast hx hb hK hW hT_x_1.1 hS_rs (vp_in_nI (n := i) (N := 266) (by omega) (by omega)) dX12_plain_37 (fun H locs f_39 S_38 ef_f_39 e1 hW => ?_)
          have hok_ : okS i (nI (99999999)) := (okS_n (by omega) (by omega) (by omega))
          have hi_f_39 := okS_up (i := i) (by omega) hi_f_37 ef_f_39 hok_
          have hTy := hTy.u50 e1 hT_x_1 ⟨f_39, rfl, hi_f_39⟩
          have hS_o := un e1 hT_o hT_x_1 (by decide) hS_o
          have hS_x_10 := un e1 hT_x_10 hT_x_1 (by decide) hS_x_10
          have hS_x_4 := un e1 hT_x_4 hT_x_1 (by decide) hS_x_4
          have hFr := uf hFr e1 hT_x_1 (by decide) (by decide)
          have hFl12 := uf hFl12 e1 hT_x_1 (by decide) (by decide)
          have hS_rs := us e1
          have hz2 := pz_up ef_f_39 (by omega) (fun h => absurd h (by omega)) hz1
          refine lv_iinc (v := nI (i + 1)) (lv' := [(1, .int (nI (i + 1))), (0, .ref o)]) hx hb dX12_plain_38 hl (k := 0) rfl (nI_add (i) 1) (by decide) rfl (fun ls hl => ?_)
          refine lv_goto (tgt := 12) hx hb dX12_plain_41 (by decide) ?_
          exact ih12 (i + 1) _ _ _ ls (by omega) (by omega) (fun _ => by rw [af_i hS_rs]; exact hz2) hTy hFr hFl12 hW (lv_sub hl [0, 1] rfl)
        · have c_28 : ¬ (202 ≤ i) := fun hh9 => c_28 ((nI_leI (a := 202) (b := i) (by omega) (by omega)).mpr hh9)
          refine lv_iconst (v := 0) hx hb dX12_plain_31 (by decide) ?_
          refine lv_goto (tgt := 37) hx hb dX12_plain_32 (by decide) ?_
          refine pl_iast hx hb hK hW hT_x_1.1 hS_rs (vp_in_nI (n := i) (N := 266) (by omega) (by omega)) dX12_plain_37 (fun H locs f_41 S_40 ef_f_41 e1 hW => ?_)
          have hok_ : okS i (nI (0)) := (okS_n (by omega) (by omega) (by omega))
          have hi_f_41 := okS_up (i := i) (by omega) hi_f_37 ef_f_41 hok_
          have hTy := hTy.u50 e1 hT_x_1 ⟨f_41, rfl, hi_f_41⟩
          have hS_o := un e1 hT_o hT_x_1 (by decide) hS_o
          have hS_x_10 := un e1 hT_x_10 hT_x_1 (by decide) hS_x_10
          have hS_x_4 := un e1 hT_x_4 hT_x_1 (by decide) hS_x_4
          have hFr := uf hFr e1 hT_x_1 (by decide) (by decide)
          have hFl12 := uf hFl12 e1 hT_x_1 (by decide) (by decide)
          have hS_rs := us e1
          have hz2 := pz_up ef_f_41 (by omega) (fun h => rfl) hz1
          refine lv_iinc (v := nI (i + 1)) (lv' := [(1, .int (nI (i + 1))), (0, .ref o)]) hx hb dX12_plain_38 hl (k := 0) rfl (nI_add (i) 1) (by decide) rfl (fun ls hl => ?_)
          refine lv_goto (tgt := 12) hx hb dX12_plain_41 (by decide) ?_
          exact ih12 (i + 1) _ _ _ ls (by omega) (by omega) (fun _ => by rw [af_i hS_rs]; exact hz2) hTy hFr hFl12 hW (lv_sub hl [0, 1] rfl)
  exact loop ((267 - 0) + 1) 0 _ _ _ ls (Nat.lt_succ_self _) (by omega) (fun h => absurd h (Nat.not_lt_zero _)) hTy hFr Fr.rf hW (lv_sub hl [0, 1] rfl)

set_option maxHeartbeats 4000000 in
set_option maxRecDepth 100000 in
theorem f_tell (l : Launch) (dC : Nat → ClassId) (dI : Nat → Nat → Nat) (cy : Nat → ClassId) (L : List Nat) (kap : Nat → Nat) (pr : Pr) (ad : (Nat → Nat) × (Nat → Nat)) (S : Nat → va_E) (sz : Nat) (o : Nat) (tn : Int32) (hTy : Ty cy L kap pr S) (hT_o : TK L kap o 12) (hu12 : ∀ b9 c9, TK L kap b9 12 → TK L kap c9 12 → b9 = c9) (hu51 : ∀ b9 c9, TK L kap b9 51 → TK L kap c9 51 → b9 = c9) (hdg : dg (fld S o 0)) (g : Nat → Int32) (hgE : fld S o 9 = g) (hg : BR g) : Met l yX12_tell (wT yX12_tell cX12_tell 5 (some .int)) ({ frames := 11, cells := 0, slots := 0, locals := 247 }) (pcS dC dI [.ref o, .int tn] sz L S (cyT cy) NLs ad) (va_Qi (fun r S' => Ty cy L kap (pr.1, tl tn pr.2) S' ∧ Fr kap [12, 50, 51, 53, 54, 112] S S' ∧ (dg (fld S' o 0) ∧ fld S' o 9 = g ∧ TLX g pr.2 tn (inf (S o) 13) (inf (S o) 14) (inf (S' o) 13) (inf (S' o) 14) r)) (fun S' t => pB dC dI (AL L sz) (va_pl L S') (cyT cy) t) (AL L sz)) 0 0 (AL L sz) := by
  refine Met.ofW (cc := cX12_tell) (maxL := 5) (ret := (some .int)) (by decide) rfl ?_
  intro p e s m args below meth c s₁ B hml hv
  obtain ⟨rfl, hsz, hP, hK, hD0, hN, hSTR⟩ := hv
  have hx := B.exec
  have hb := B.bytes
  have hr := B.returns
  have hT : ∀ wd ∈ TB, wd.before [.ref o, .int tn].toArray s = true := fun wd h => atoms_spec (ws := wT yX12_tell cX12_tell 5 (some .int)) B.pre wd (List.mem_cons_of_mem _ h)
  have hown : s.vm.findClass RX12 = some m.cls := findClass_of_methodNamed B.named
  have hlocks := B.notSynchronized
  subst hsz
  have hW : PW dC dI L (AL L s.heap.size) s.heap S s.heap [] := ⟨hP, pl_self hD0, va_S.rf⟩
  have hA0 : ∀ q, q ∈ L → AL L s.heap.size q := fun _ h => Or.inl h
  have hA : ∀ q, s.heap.size ≤ q → AL L s.heap.size q := fun _ h => Or.inr h
  have hFr : Fr kap [12, 50, 51, 53, 54, 112] S S := Fr.rf
  have hl := lv_entry ([.ref o, .int tn]) (n := 5) (Nat.le_of_ble_eq_true rfl)
  rw [lg_entry_eq]
  generalize (lg_sl ([.ref o, .int tn]) ++ List.replicate (5 - (lg_sl ([.ref o, .int tn])).length) Slot.unset).toArray = ls at hl ⊢
  have hl : lv_has ls 5 [(0, .ref o), (1, .int tn)] := hl
  obtain ⟨x_1, x_2, x_3, x_4, x_5, x_6, x_7, x_8, x_9, x_10, x_11, x_12, x_13, x_14, x_15, x_16, x_17, x_18, x_19, x_20, x_21, x_22, x_23, x_24, x_25, x_26, x_27, x_28, x_29, x_30, x_31, hS_o, hT_x_1, hT_x_2, hT_x_3, hT_x_4, hT_x_5, hb_x_6, hb_x_7, hb_x_8, hT_x_10, hb_q2, hb_x_11, hb_x_12, hT_x_17, hT_x_18, hb_x_19, hT_x_20, hT_x_21, hT_x_22, hT_x_23, hT_x_24, hT_x_25, hT_x_26, hT_x_27, hT_x_28, hT_x_29, hT_x_30, hb_x_31⟩ := hTy.k12 hT_o
  have hb_q2 : pr.2 ≤ 900 := hb_q2
  have hS_o : S o = .inr (12, [.ref x_1, .ref x_2, .ref x_3, .ref x_4, .ref x_5, .int (nI x_6), .int (nI x_7), .int (nI x_8), .int x_9, .ref x_10, .int (nI (pr.2)), .int (nI x_11), .int (nI x_12), .int x_13, .int x_14, .int x_15, .int x_16, .ref x_17, .ref x_18, .int (nI x_19), .ref x_20, .ref x_21, .ref x_22, .ref x_23, .ref x_24, .ref x_25, .ref x_26, .ref x_27, .ref x_28, .ref x_29, .ref x_30, .int (nI x_31)]) := hS_o
  obtain ⟨f_32, hS_x_1, hi_f_32⟩ := hTy.k50 hT_x_1
  obtain ⟨f_33, hS_x_2, hi_f_33⟩ := hTy.k51 hT_x_2
  have hdg_ : dg f_32 := by have q := hdg; rw [fld_i hS_o rfl hS_x_1] at q; exact q
  have hdgs := hdg_
  obtain ⟨f_34, hS_x_10⟩ := hTy.k55 hT_x_10
  have e9_ := hgE.symm.trans (fld_i hS_o rfl hS_x_10)
  subst e9_
  obtain ⟨f_35, hS_x_4⟩ := hTy.k53 hT_x_4
  have hw13_ : inf (S o) 13 = x_13 := inf_i hS_o rfl
  have hw14_ : inf (S o) 14 = x_14 := inf_i hS_o rfl
  refine lv_aload_n hx hb dX12_tell_0 rfl (lv_at hl 0 rfl) ?_
  refine lv_iconst (v := 0) hx hb dX12_tell_1 (by decide) ?_
  refine pl_put (ci := 12) (v := .int 0) (ty := .int) (C := RX12) (T := TX12) (N := 32) (fs' := [.ref x_1, .ref x_2, .ref x_3, .ref x_4, .ref x_5, .int (nI x_6), .int (nI x_7), .int (nI x_8), .int 0, .ref x_10, .int (nI (pr.2)), .int (nI x_11), .int (nI x_12), .int x_13, .int x_14, .int x_15, .int x_16, .ref x_17, .ref x_18, .int (nI x_19), .ref x_20, .ref x_21, .ref x_22, .ref x_23, .ref x_24, .ref x_25, .ref x_26, .ref x_27, .ref x_28, .ref x_29, .ref x_30, .int (nI x_31)]) hx hb hT iX12 tyX12 tyX12_ok nmX12 hown hK hW hT_o.1 hS_o rfl 8 (by decide) w1090 rfl (by decide +kernel) rfl rfl (Nat.le_of_ble_eq_true rfl) rfl dX12_tell_2 (fun H locs S_36 e1 hW => ?_)
  have hTy := hTy.u12 e1 hT_o ⟨x_1, x_2, x_3, x_4, x_5, x_6, x_7, x_8, 0, x_10, x_11, x_12, x_13, x_14, x_15, x_16, x_17, x_18, x_19, x_20, x_21, x_22, x_23, x_24, x_25, x_26, x_27, x_28, x_29, x_30, x_31, rfl, hT_x_1, hT_x_2, hT_x_3, hT_x_4, hT_x_5, (by omega), (by omega), (by omega), hT_x_10, (by show pr.2 ≤ 900; omega), (by omega), (by omega), hT_x_17, hT_x_18, (by omega), hT_x_20, hT_x_21, hT_x_22, hT_x_23, hT_x_24, hT_x_25, hT_x_26, hT_x_27, hT_x_28, hT_x_29, hT_x_30, (by omega)⟩
  have hS_x_1 := un e1 hT_x_1 hT_o (by decide) hS_x_1
  have hS_x_2 := un e1 hT_x_2 hT_o (by decide) hS_x_2
  have hS_x_10 := un e1 hT_x_10 hT_o (by decide) hS_x_10
  have hS_x_4 := un e1 hT_x_4 hT_o (by decide) hS_x_4
  have hws := (show wrs (.inr (12, [.ref x_1, .ref x_2, .ref x_3, .ref x_4, .ref x_5, .int (nI x_6), .int (nI x_7), .int (nI x_8), .int 0, .ref x_10, .int (nI (pr.2)), .int (nI x_11), .int (nI x_12), .int x_13, .int x_14, .int x_15, .int x_16, .ref x_17, .ref x_18, .int (nI x_19), .ref x_20, .ref x_21, .ref x_22, .ref x_23, .ref x_24, .ref x_25, .ref x_26, .ref x_27, .ref x_28, .ref x_29, .ref x_30, .int (nI x_31)])) = wrs (S o) from by rw [hS_o]; rfl)
  have hFr := ufs hFr e1 hT_o (by decide) hws
  have hS_o := us e1
  refine lv_iload_n hx hb dX12_tell_5 rfl (lv_at hl 1 rfl) ?_
  refine lv_i2l hx hb dX12_tell_6 rfl ?_
  refine lv_topl (fun z_37 ez_37 => ?_)
  refine lv_lconst (v := 0) hx hb dX12_tell_7 (by decide) ?_
  refine lv_aload_n hx hb dX12_tell_8 rfl (lv_at hl 0 rfl) ?_
  refine pl_get (ci := 12) (v := .int (nI (pr.2))) (C := RX12) (T := TX12) (N := 32) hx hb hT iX12 hown hK hW hT_o.1 hS_o rfl 10 (by decide) w1092 rfl dX12_tell_9 ?_
  refine lv_i2l hx hb dX12_tell_12 rfl ?_
  refine lv_topl (fun z_38 ez_38 => ?_)
  refine vp_callSi (va_Run.run (va_runS (As := [.long z_37, .long 0, .long z_38]) (rest := []) ⟨hx, hb, hml, hown, hT⟩ (m_isIn l dC dI H.size z_37 0 z_38) (va_cwS 3 hT (gS w1187 w1188 w14 w1189) rfl rfl rfl (by decide +kernel) ⟨(Nat.le_of_ble_eq_true rfl), (Nat.le_of_ble_eq_true rfl)⟩) ⟨pcW.blind, pcW.pre (va_P0 _ _ _) (hK.sub (tys' := []) [] rfl) (va_D0 (fun _ => True))⟩ rfl rfl hl.1 rfl (lv_room (Nat.le_of_ble_eq_true rfl)) dX12_tell_13 ⟨(Nat.le_of_ble_eq_true rfl), (Nat.le_of_ble_eq_true rfl)⟩)) (fun r_39 hr_39 => ?_)
  rcases isInc hr_39 with hc_ | hc_
  · obtain ⟨rfl, hin_⟩ := hc_
    obtain ⟨k_40, hb_k_40, rfl⟩ := inN ez_37 ez_38 hin_ (by omega)
    refine lv_if_ne (tgt := 22) hx hb dX12_tell_16 (by decide) (fun _ => ?_) (fun h => absurd h (by decide))
    refine lv_aload_n hx hb dX12_tell_22 rfl (lv_at hl 0 rfl) ?_
    refine lv_iconst (v := 0) hx hb dX12_tell_23 (by decide) ?_
    refine pl_put (ci := 12) (v := .int 0) (ty := .int) (C := RX12) (T := TX12) (N := 32) (fs' := [.ref x_1, .ref x_2, .ref x_3, .ref x_4, .ref x_5, .int (nI x_6), .int (nI x_7), .int (nI x_8), .int 0, .ref x_10, .int 0, .int (nI x_11), .int (nI x_12), .int x_13, .int x_14, .int x_15, .int x_16, .ref x_17, .ref x_18, .int (nI x_19), .ref x_20, .ref x_21, .ref x_22, .ref x_23, .ref x_24, .ref x_25, .ref x_26, .ref x_27, .ref x_28, .ref x_29, .ref x_30, .int (nI x_31)]) hx hb hT iX12 tyX12 tyX12_ok nmX12 hown hK hW hT_o.1 hS_o rfl 10 (by decide) w1092 rfl (by decide +kernel) rfl rfl (Nat.le_of_ble_eq_true rfl) rfl dX12_tell_24 (fun H locs S_41 e1 hW => ?_)
    have hTy : Ty cy L kap (pr.1, 0) S_41 := hTy.p2 (n := 0) e1 hT_o (fun b9 hb9 => hu12 b9 o hb9 hT_o) ⟨x_1, x_2, x_3, x_4, x_5, x_6, x_7, x_8, 0, x_10, x_11, x_12, x_13, x_14, x_15, x_16, x_17, x_18, x_19, x_20, x_21, x_22, x_23, x_24, x_25, x_26, x_27, x_28, x_29, x_30, x_31, rfl, hT_x_1, hT_x_2, hT_x_3, hT_x_4, hT_x_5, (by omega), (by omega), (by omega), hT_x_10, (by show 0 ≤ 900; omega), (by omega), (by omega), hT_x_17, hT_x_18, (by omega), hT_x_20, hT_x_21, hT_x_22, hT_x_23, hT_x_24, hT_x_25, hT_x_26, hT_x_27, hT_x_28, hT_x_29, hT_x_30, (by omega)⟩
    have hS_x_1 := un e1 hT_x_1 hT_o (by decide) hS_x_1
    have hS_x_2 := un e1 hT_x_2 hT_o (by decide) hS_x_2
    have hS_x_10 := un e1 hT_x_10 hT_o (by decide) hS_x_10
    have hS_x_4 := un e1 hT_x_4 hT_o (by decide) hS_x_4
    have hws := (show wrs (.inr (12, [.ref x_1, .ref x_2, .ref x_3, .ref x_4, .ref x_5, .int (nI x_6), .int (nI x_7), .int (nI x_8), .int 0, .ref x_10, .int (nI (0)), .int (nI x_11), .int (nI x_12), .int x_13, .int x_14, .int x_15, .int x_16, .ref x_17, .ref x_18, .int (nI x_19), .ref x_20, .ref x_21, .ref x_22, .ref x_23, .ref x_24, .ref x_25, .ref x_26, .ref x_27, .ref x_28, .ref x_29, .ref x_30, .int (nI x_31)])) = wrs (S_36 o) from by rw [hS_o]; rfl)
    have hFr := ufs hFr e1 hT_o (by decide) hws
    have hS_o := us e1
    refine lv_aload_n hx hb dX12_tell_27 rfl (lv_at hl 0 rfl) ?_
    refine lv_iload_n hx hb dX12_tell_28 rfl (lv_at hl 1 rfl) ?_
    refine pl_put (ci := 12) (v := .int (nI k_40)) (ty := .int) (C := RX12) (T := TX12) (N := 32) (fs' := [.ref x_1, .ref x_2, .ref x_3, .ref x_4, .ref x_5, .int (nI x_6), .int (nI x_7), .int (nI x_8), .int 0, .ref x_10, .int (nI (0)), .int (nI k_40), .int (nI x_12), .int x_13, .int x_14, .int x_15, .int x_16, .ref x_17, .ref x_18, .int (nI x_19), .ref x_20, .ref x_21, .ref x_22, .ref x_23, .ref x_24, .ref x_25, .ref x_26, .ref x_27, .ref x_28, .ref x_29, .ref x_30, .int (nI x_31)]) hx hb hT iX12 tyX12 tyX12_ok nmX12 hown hK hW hT_o.1 hS_o rfl 11 (by decide) w1093 rfl (by decide +kernel) rfl rfl (Nat.le_of_ble_eq_true rfl) rfl dX12_tell_29 (fun H locs S_42 e1 hW => ?_)
    have hTy := hTy.u12 e1 hT_o ⟨x_1, x_2, x_3, x_4, x_5, x_6, x_7, x_8, 0, x_10, k_40, x_12, x_13, x_14, x_15, x_16, x_17, x_18, x_19, x_20, x_21, x_22, x_23, x_24, x_25, x_26, x_27, x_28, x_29, x_30, x_31, rfl, hT_x_1, hT_x_2, hT_x_3, hT_x_4, hT_x_5, (by omega), (by omega), (by omega), hT_x_10, (by show 0 ≤ 900; omega), (by omega), (by omega), hT_x_17, hT_x_18, (by omega), hT_x_20, hT_x_21, hT_x_22, hT_x_23, hT_x_24, hT_x_25, hT_x_26, hT_x_27, hT_x_28, hT_x_29, hT_x_30, (by omega)⟩
    have hS_x_1 := un e1 hT_x_1 hT_o (by decide) hS_x_1
    have hS_x_2 := un e1 hT_x_2 hT_o (by decide) hS_x_2
    have hS_x_10 := un e1 hT_x_10 hT_o (by decide) hS_x_10
    have hS_x_4 := un e1 hT_x_4 hT_o (by decide) hS_x_4
    have hws := (show wrs (.inr (12, [.ref x_1, .ref x_2, .ref x_3, .ref x_4, .ref x_5, .int (nI x_6), .int (nI x_7), .int (nI x_8), .int 0, .ref x_10, .int (nI (0)), .int (nI k_40), .int (nI x_12), .int x_13, .int x_14, .int x_15, .int x_16, .ref x_17, .ref x_18, .int (nI x_19), .ref x_20, .ref x_21, .ref x_22, .ref x_23, .ref x_24, .ref x_25, .ref x_26, .ref x_27, .ref x_28, .ref x_29, .ref x_30, .int (nI x_31)])) = wrs (S_41 o) from by rw [hS_o]; rfl)
    have hFr := ufs hFr e1 hT_o (by decide) hws
    have hS_o := us e1
    refine lv_aload_n hx hb dX12_tell_32 rfl (lv_at hl 0 rfl) ?_
    refine lv_iconst (v := 0) hx hb dX12_tell_33 (by decide) ?_
    refine pl_put (ci := 12) (v := .int 0) (ty := .int) (C := RX12) (T := TX12) (N := 32) (fs' := [.ref x_1, .ref x_2, .ref x_3, .ref x_4, .ref x_5, .int (nI x_6), .int (nI x_7), .int (nI x_8), .int 0, .ref x_10, .int (nI (0)), .int (nI k_40), .int 0, .int x_13, .int x_14, .int x_15, .int x_16, .ref x_17, .ref x_18, .int (nI x_19), .ref x_20, .ref x_21, .ref x_22, .ref x_23, .ref x_24, .ref x_25, .ref x_26, .ref x_27, .ref x_28, .ref x_29, .ref x_30, .int (nI x_31)]) hx hb hT iX12 tyX12 tyX12_ok nmX12 hown hK hW hT_o.1 hS_o rfl 12 (by decide) w1094 rfl (by decide +kernel) rfl rfl (Nat.le_of_ble_eq_true rfl) rfl dX12_tell_34 (fun H locs S_43 e1 hW => ?_)
    have hTy := hTy.u12 e1 hT_o ⟨x_1, x_2, x_3, x_4, x_5, x_6, x_7, x_8, 0, x_10, k_40, 0, x_13, x_14, x_15, x_16, x_17, x_18, x_19, x_20, x_21, x_22, x_23, x_24, x_25, x_26, x_27, x_28, x_29, x_30, x_31, rfl, hT_x_1, hT_x_2, hT_x_3, hT_x_4, hT_x_5, (by omega), (by omega), (by omega), hT_x_10, (by show 0 ≤ 900; omega), (by omega), (by omega), hT_x_17, hT_x_18, (by omega), hT_x_20, hT_x_21, hT_x_22, hT_x_23, hT_x_24, hT_x_25, hT_x_26, hT_x_27, hT_x_28, hT_x_29, hT_x_30, (by omega)⟩
    have hS_x_1 := un e1 hT_x_1 hT_o (by decide) hS_x_1
    have hS_x_2 := un e1 hT_x_2 hT_o (by decide) hS_x_2
    have hS_x_10 := un e1 hT_x_10 hT_o (by decide) hS_x_10
    have hS_x_4 := un e1 hT_x_4 hT_o (by decide) hS_x_4
    have hws := (show wrs (.inr (12, [.ref x_1, .ref x_2, .ref x_3, .ref x_4, .ref x_5, .int (nI x_6), .int (nI x_7), .int (nI x_8), .int 0, .ref x_10, .int (nI (0)), .int (nI k_40), .int 0, .int x_13, .int x_14, .int x_15, .int x_16, .ref x_17, .ref x_18, .int (nI x_19), .ref x_20, .ref x_21, .ref x_22, .ref x_23, .ref x_24, .ref x_25, .ref x_26, .ref x_27, .ref x_28, .ref x_29, .ref x_30, .int (nI x_31)])) = wrs (S_42 o) from by rw [hS_o]; rfl)
    have hFr := ufs hFr e1 hT_o (by decide) hws
    have hS_o := us e1
    refine lv_aload_n hx hb dX12_tell_37 rfl (lv_at hl 0 rfl) ?_
    refine lv_iconst (v := 0) hx hb dX12_tell_38 (by decide) ?_
    refine pl_put (ci := 12) (v := .int 0) (ty := .int) (C := RX12) (T := TX12) (N := 32) (fs' := [.ref x_1, .ref x_2, .ref x_3, .ref x_4, .ref x_5, .int (nI x_6), .int (nI x_7), .int (nI x_8), .int 0, .ref x_10, .int (nI (0)), .int (nI k_40), .int 0, .int 0, .int x_14, .int x_15, .int x_16, .ref x_17, .ref x_18, .int (nI x_19), .ref x_20, .ref x_21, .ref x_22, .ref x_23, .ref x_24, .ref x_25, .ref x_26, .ref x_27, .ref x_28, .ref x_29, .ref x_30, .int (nI x_31)]) hx hb hT iX12 tyX12 tyX12_ok nmX12 hown hK hW hT_o.1 hS_o rfl 13 (by decide) w1095 rfl (by decide +kernel) rfl rfl (Nat.le_of_ble_eq_true rfl) rfl dX12_tell_39 (fun H locs S_44 e1 hW => ?_)
    have hTy := hTy.u12 e1 hT_o ⟨x_1, x_2, x_3, x_4, x_5, x_6, x_7, x_8, 0, x_10, k_40, 0, 0, x_14, x_15, x_16, x_17, x_18, x_19, x_20, x_21, x_22, x_23, x_24, x_25, x_26, x_27, x_28, x_29, x_30, x_31, rfl, hT_x_1, hT_x_2, hT_x_3, hT_x_4, hT_x_5, (by omega), (by omega), (by omega), hT_x_10, (by show 0 ≤ 900; omega), (by omega), (by omega), hT_x_17, hT_x_18, (by omega), hT_x_20, hT_x_21, hT_x_22, hT_x_23, hT_x_24, hT_x_25, hT_x_26, hT_x_27, hT_x_28, hT_x_29, hT_x_30, (by omega)⟩
    have hS_x_1 := un e1 hT_x_1 hT_o (by decide) hS_x_1
    have hS_x_2 := un e1 hT_x_2 hT_o (by decide) hS_x_2
    have hS_x_10 := un e1 hT_x_10 hT_o (by decide) hS_x_10
    have hS_x_4 := un e1 hT_x_4 hT_o (by decide) hS_x_4
    have hws := trivial
    have hFr := ufw hFr e1 hT_o (by decide) (by decide)
    have hS_o := us e1
    refine lv_aload_n hx hb dX12_tell_42 rfl (lv_at hl 0 rfl) ?_
    refine lv_iconst (v := (-1)) hx hb dX12_tell_43 (by decide) ?_
    refine pl_put (ci := 12) (v := .int (-1)) (ty := .int) (C := RX12) (T := TX12) (N := 32) (fs' := [.ref x_1, .ref x_2, .ref x_3, .ref x_4, .ref x_5, .int (nI x_6), .int (nI x_7), .int (nI x_8), .int 0, .ref x_10, .int (nI (0)), .int (nI k_40), .int 0, .int 0, .int (-1), .int x_15, .int x_16, .ref x_17, .ref x_18, .int (nI x_19), .ref x_20, .ref x_21, .ref x_22, .ref x_23, .ref x_24, .ref x_25, .ref x_26, .ref x_27, .ref x_28, .ref x_29, .ref x_30, .int (nI x_31)]) hx hb hT iX12 tyX12 tyX12_ok nmX12 hown hK hW hT_o.1 hS_o rfl 14 (by decide) w1096 rfl (by decide +kernel) rfl rfl (Nat.le_of_ble_eq_true rfl) rfl dX12_tell_44 (fun H locs S_45 e1 hW => ?_)
    have hTy := hTy.u12 e1 hT_o ⟨x_1, x_2, x_3, x_4, x_5, x_6, x_7, x_8, 0, x_10, k_40, 0, 0, (-1), x_15, x_16, x_17, x_18, x_19, x_20, x_21, x_22, x_23, x_24, x_25, x_26, x_27, x_28, x_29, x_30, x_31, rfl, hT_x_1, hT_x_2, hT_x_3, hT_x_4, hT_x_5, (by omega), (by omega), (by omega), hT_x_10, (by show 0 ≤ 900; omega), (by omega), (by omega), hT_x_17, hT_x_18, (by omega), hT_x_20, hT_x_21, hT_x_22, hT_x_23, hT_x_24, hT_x_25, hT_x_26, hT_x_27, hT_x_28, hT_x_29, hT_x_30, (by omega)⟩
    have hS_x_1 := un e1 hT_x_1 hT_o (by decide) hS_x_1
    have hS_x_2 := un e1 hT_x_2 hT_o (by decide) hS_x_2
    have hS_x_10 := un e1 hT_x_10 hT_o (by decide) hS_x_10
    have hS_x_4 := un e1 hT_x_4 hT_o (by decide) hS_x_4
    have hws := trivial
    have hFr := ufw hFr e1 hT_o (by decide) (by decide)
    have hS_o := us e1
    refine lv_aload_n hx hb dX12_tell_47 rfl (lv_at hl 0 rfl) ?_
    refine lv_iconst (v := 0) hx hb dX12_tell_48 (by decide) ?_
    refine pl_put (ci := 12) (v := .int 0) (ty := .int) (C := RX12) (T := TX12) (N := 32) (fs' := [.ref x_1, .ref x_2, .ref x_3, .ref x_4, .ref x_5, .int (nI x_6), .int (nI x_7), .int (nI x_8), .int 0, .ref x_10, .int (nI (0)), .int (nI k_40), .int 0, .int 0, .int (-1), .int 0, .int x_16, .ref x_17, .ref x_18, .int (nI x_19), .ref x_20, .ref x_21, .ref x_22, .ref x_23, .ref x_24, .ref x_25, .ref x_26, .ref x_27, .ref x_28, .ref x_29, .ref x_30, .int (nI x_31)]) hx hb hT iX12 tyX12 tyX12_ok nmX12 hown hK hW hT_o.1 hS_o rfl 15 (by decide) w1097 rfl (by decide +kernel) rfl rfl (Nat.le_of_ble_eq_true rfl) rfl dX12_tell_49 (fun H locs S_46 e1 hW => ?_)
    have hTy := hTy.u12 e1 hT_o ⟨x_1, x_2, x_3, x_4, x_5, x_6, x_7, x_8, 0, x_10, k_40, 0, 0, (-1), 0, x_16, x_17, x_18, x_19, x_20, x_21, x_22, x_23, x_24, x_25, x_26, x_27, x_28, x_29, x_30, x_31, rfl, hT_x_1, hT_x_2, hT_x_3, hT_x_4, hT_x_5, (by omega), (by omega), (by omega), hT_x_10, (by show 0 ≤ 900; omega), (by omega), (by omega), hT_x_17, hT_x_18, (by omega), hT_x_20, hT_x_21, hT_x_22, hT_x_23, hT_x_24, hT_x_25, hT_x_26, hT_x_27, hT_x_28, hT_x_29, hT_x_30, (by omega)⟩
    have hS_x_1 := un e1 hT_x_1 hT_o (by decide) hS_x_1
    have hS_x_2 := un e1 hT_x_2 hT_o (by decide) hS_x_2
    have hS_x_10 := un e1 hT_x_10 hT_o (by decide) hS_x_10
    have hS_x_4 := un e1 hT_x_4 hT_o (by decide) hS_x_4
    have hws := (show wrs (.inr (12, [.ref x_1, .ref x_2, .ref x_3, .ref x_4, .ref x_5, .int (nI x_6), .int (nI x_7), .int (nI x_8), .int 0, .ref x_10, .int (nI (0)), .int (nI k_40), .int 0, .int 0, .int (-1), .int 0, .int x_16, .ref x_17, .ref x_18, .int (nI x_19), .ref x_20, .ref x_21, .ref x_22, .ref x_23, .ref x_24, .ref x_25, .ref x_26, .ref x_27, .ref x_28, .ref x_29, .ref x_30, .int (nI x_31)])) = wrs (S_45 o) from by rw [hS_o]; rfl)
    have hFr := ufs hFr e1 hT_o (by decide) hws
    have hS_o := us e1
    refine lv_aload_n hx hb dX12_tell_52 rfl (lv_at hl 0 rfl) ?_
    refine pl_get (ci := 12) (v := .int (nI x_6)) (C := RX12) (T := TX12) (N := 32) hx hb hT iX12 hown hK hW hT_o.1 hS_o rfl 5 (by decide) w1087 rfl dX12_tell_53 ?_
    refine lv_istore_n (lv' := [(2, .int (nI x_6)), (0, .ref o), (1, .int (nI k_40))]) hx hb dX12_tell_56 rfl hl (by decide) rfl (fun ls hl => ?_)
    refine lv_aload_n hx hb dX12_tell_57 rfl (lv_at hl 1 rfl) ?_
    refine pl_get (ci := 12) (v := .int (nI x_7)) (C := RX12) (T := TX12) (N := 32) hx hb hT iX12 hown hK hW hT_o.1 hS_o rfl 6 (by decide) w1088 rfl dX12_tell_58 ?_
    refine lv_istore_n (lv' := [(3, .int (nI x_7)), (2, .int (nI x_6)), (0, .ref o), (1, .int (nI k_40))]) hx hb dX12_tell_61 rfl hl (by decide) rfl (fun ls hl => ?_)
    refine lv_iconst (v := 0) hx hb dX12_tell_62 (by decide) ?_
    refine lv_istore (lv' := [(4, .int 0), (3, .int (nI x_7)), (2, .int (nI x_6)), (0, .ref o), (1, .int (nI k_40))]) hx hb dX12_tell_63 hl (by decide) rfl (fun ls hl => ?_)
    have loop : ∀ (fuel : Nat) (i : Nat) (gv : Nat → Int32) (SS : Nat → va_E) (H : Heap) (locs : List Loc) (ls : Array Slot), 267 - i < fuel → (i ≤ 266) → (SS x_2 = .inl (cy 0, 266, .inl gv)) → (∀ j, j < i → gv j = f_32 j) → Ty cy L kap (pr.1, 0) SS → Fr kap [12, 50, 51, 53, 54, 112] S SS → Fr kap [51] S_46 SS → PW dC dI L (AL L s.heap.size) s.heap SS H locs → lv_has ls 5 [(4, .int (nI i)), (3, .int (nI x_7)), (2, .int (nI x_6)), (0, .ref o), (1, .int (nI k_40))] → W p l e (headSpec (wT yX12_tell cX12_tell 5 (some .int)) { frames := 11, cells := 0, slots := 0, locals := 247 }).room s m [.ref o, .int (nI k_40)].toArray below meth c H locs 0 0 (MQ below (va_Qi (fun r S' => Ty cy L kap (pr.1, tl (nI k_40) pr.2) S' ∧ Fr kap [12, 50, 51, 53, 54, 112] S S' ∧ (dg (fld S' o 0) ∧ fld S' o 9 = g ∧ TLX g pr.2 (nI k_40) (inf (S o) 13) (inf (S o) 14) (inf (S' o) 13) (inf (S' o) 14) r)) (fun S' t => pB dC dI (AL L s.heap.size) (va_pl L S') (cyT cy) t) (AL L s.heap.size)) [.ref o, .int (nI k_40)].toArray s 0 0 (AL L s.heap.size)) (F0 m 65 ls []) := by
      intro fuel
      induction fuel with
      | zero => intro i gv SS H locs ls h; exact absurd h (Nat.not_lt_zero _)
      | succ fu65 ih65 =>
        intro i gv S_47 H locs ls hm65 hb_i hVs hcp hTy hFr hFl65 hW hl
        have hS_o := hFl65.at hT_o (by decide) hS_o
        have hS_x_1 := hFl65.at hT_x_1 (by decide) hS_x_1
        have hS_x_10 := hFl65.at hT_x_10 (by decide) hS_x_10
        have hS_x_4 := hFl65.at hT_x_4 (by decide) hS_x_4
        have hi_gv := k51i hTy hT_x_2 hVs
        refine lv_iload hx hb dX12_tell_65 (lv_at hl 0 rfl) ?_
        refine lv_sipush (v := 266) hx hb dX12_tell_67 (by decide) ?_
        refine lv_icmp_ge (tgt := 93) hx hb dX12_tell_70 (by decide) (fun c_70 => ?_) (fun c_70 => ?_)
        · have c_70 : 266 ≤ i := (nI_leI (a := 266) (b := i) (by omega) (by omega)).mp c_70
          have hsv : dg gv := dg_c hdgs (fun j hj => hcp j (by omega))
          refine lv_iconst (v := 0) hx hb dX12_tell_93 (by decide) ?_
          refine lv_istore (lv' := [(4, .int 0), (3, .int (nI x_7)), (2, .int (nI x_6)), (0, .ref o), (1, .int (nI k_40))]) hx hb dX12_tell_94 hl (by decide) rfl (fun ls hl => ?_)
          have loop : ∀ (fuel : Nat) (i : Nat) (SS : Nat → va_E) (H : Heap) (locs : List Loc) (ls : Array Slot), 13 - i < fuel → (i ≤ 12) → Ty cy L kap (pr.1, 0) SS → Fr kap [12, 50, 51, 53, 54, 112] S SS → Fr kap [54] S_47 SS → PW dC dI L (AL L s.heap.size) s.heap SS H locs → lv_has ls 5 [(4, .int (nI i)), (3, .int (nI x_7)), (2, .int (nI x_6)), (0, .ref o), (1, .int (nI k_40))] → W p l e (headSpec (wT yX12_tell cX12_tell 5 (some .int)) { frames := 11, cells := 0, slots := 0, locals := 247 }).room s m [.ref o, .int (nI k_40)].toArray below meth c H locs 0 0 (MQ below (va_Qi (fun r S' => Ty cy L kap (pr.1, tl (nI k_40) pr.2) S' ∧ Fr kap [12, 50, 51, 53, 54, 112] S S' ∧ (dg (fld S' o 0) ∧ fld S' o 9 = g ∧ TLX g pr.2 (nI k_40) (inf (S o) 13) (inf (S o) 14) (inf (S' o) 13) (inf (S' o) 14) r)) (fun S' t => pB dC dI (AL L s.heap.size) (va_pl L S') (cyT cy) t) (AL L s.heap.size)) [.ref o, .int (nI k_40)].toArray s 0 0 (AL L s.heap.size)) (F0 m 96 ls []) := by
            intro fuel
            induction fuel with
            | zero => intro i SS H locs ls h; exact absurd h (Nat.not_lt_zero _)
            | succ fu96 ih96 =>
              intro i S_48 H locs ls hm96 hb_i hTy hFr hFl96 hW hl
              have hS_o := hFl96.at hT_o (by decide) hS_o
              have hS_x_1 := hFl96.at hT_x_1 (by decide) hS_x_1
              have hS_x_10 := hFl96.at hT_x_10 (by decide) hS_x_10
              have hS_x_4 := hFl96.at hT_x_4 (by decide) hS_x_4
              have hVs := hFl96.at hT_x_2 (by decide) hVs
              refine lv_iload hx hb dX12_tell_96 (lv_at hl 0 rfl) ?_
              refine lv_bipush (v := 12) hx hb dX12_tell_98 (by decide) ?_
              refine lv_icmp_ge (tgt := 123) hx hb dX12_tell_100 (by decide) (fun c_100 => ?_) (fun c_100 => ?_)
              · have c_100 : 12 ≤ i := (nI_leI (a := 12) (b := i) (by omega) (by omega)).mp c_100
                refine lv_aload_n hx hb dX12_tell_123 rfl (lv_at hl 3 rfl) ?_
                refine pl_callv (va_runV (As := []) (rest := []) ⟨hx, hb, hml, hown, hT⟩ (f_plain l dC dI cy L kap (pr.1, 0) S_48 H.size o hTy hT_o g f_35 0 k_40 0 (-1) 0 x_16 x_6 x_7 x_1 ⟨MKi (sp := 0) (sn := k_40) (pa := x_6) (ki := x_7) hS_o rfl rfl rfl rfl rfl rfl (by omega) (by omega) (by omega) (by omega), inf_i hS_o rfl, inf_i hS_o rfl, inf_i hS_o rfl, fld_i hS_o rfl hS_x_10, lfd_i hS_o rfl hS_x_4⟩ (by omega) hg) (cwV 0 hT (gV w1077 w1079 ws54 w14 w1080) rfl rfl rfl (by decide +kernel) ⟨(Nat.le_of_ble_eq_true rfl), (Nat.le_of_ble_eq_true rfl)⟩) ⟨pcN.blind, pl_recv hK hW hT_o.1 hS_o rfl, pcN.pre hW.1 hK hW.2.1 hN (fun q h => absurd h List.not_mem_nil)⟩ rfl rfl hl.1 rfl (lv_room (Nat.le_of_ble_eq_true rfl)) dX12_tell_124 ⟨(Nat.le_of_ble_eq_true rfl), (Nat.le_of_ble_eq_true rfl)⟩) hW hA0 hA (fun S_49 H locs hrel hW => ?_)
                obtain ⟨hTy, hF1, hx1⟩ := hrel
                have hFr := hFr.tr hF1 (by decide)
                have hS_x_10 := hF1.at hT_x_10 (by decide) hS_x_10
                have hS_x_4 := hF1.at hT_x_4 (by decide) hS_x_4
                have hVs := hF1.at hT_x_2 (by decide) hVs
                have hpl0_ := hx1.2
                obtain ⟨x_50, x_51, x_52, x_53, x_54, x_55, x_56, x_57, x_58, x_59, x_60, x_61, x_62, x_63, x_64, x_65, x_66, x_67, x_68, x_69, x_70, x_71, x_72, x_73, x_74, x_75, x_76, x_77, x_78, x_79, x_80, hS_o, hT_x_50, hT_x_51, hT_x_52, hT_x_53, hT_x_54, hb_x_55, hb_x_56, hb_x_57, hT_x_59, hb_q2, hb_x_60, hb_x_61, hT_x_66, hT_x_67, hb_x_68, hT_x_69, hT_x_70, hT_x_71, hT_x_72, hT_x_73, hT_x_74, hT_x_75, hT_x_76, hT_x_77, hT_x_78, hT_x_79, hb_x_80⟩ := hTy.k12 hT_o
                have hb_q2 : 0 ≤ 900 := hb_q2
                have hS_o : S_49 o = .inr (12, [.ref x_50, .ref x_51, .ref x_52, .ref x_53, .ref x_54, .int (nI x_55), .int (nI x_56), .int (nI x_57), .int x_58, .ref x_59, .int (nI (0)), .int (nI x_60), .int (nI x_61), .int x_62, .int x_63, .int x_64, .int x_65, .ref x_66, .ref x_67, .int (nI x_68), .ref x_69, .ref x_70, .ref x_71, .ref x_72, .ref x_73, .ref x_74, .ref x_75, .ref x_76, .ref x_77, .ref x_78, .ref x_79, .int (nI x_80)]) := hS_o
                obtain ⟨hMK_, h14_, h15_, h16_, h9_, h3_⟩ := hx1.1
                obtain ⟨e12_, e11_, e13_, e5_, e6_, e0_⟩ := MKe hMK_ hS_o rfl rfl rfl rfl rfl rfl (by omega) (by omega) (by omega) (by omega)
                subst e12_ e11_ e13_ e5_ e6_ e0_
                have e14_ := h14_.symm.trans (inf_i hS_o rfl)
                subst e14_
                have e15_ := h15_.symm.trans (inf_i hS_o rfl)
                subst e15_
                have e16_ := h16_.symm.trans (inf_i hS_o rfl)
                subst e16_
                obtain ⟨f_81, hS_x_59⟩ := hTy.k55 hT_x_59
                have e9_ := h9_.symm.trans (fld_i hS_o rfl hS_x_59)
                subst e9_
                obtain ⟨f_82, hS_x_53⟩ := hTy.k53 hT_x_53
                have e3_ := h3_.symm.trans (lfd_i hS_o rfl hS_x_53)
                subst e3_
                have loop : ∀ (fuel : Nat) (gsp : Nat) (gwr : Int32) (gwa : Int32) (gsen : Int32) (gra : Int32) (gnm : Nat → Int64) (gpa : Nat) (gki : Nat) (gd : Nat) (gdf : Nat → Nat × Nat) (gmn : Nat) (gkf : Nat → Bool) (SS : Nat → va_E) (H : Heap) (locs : List Loc) (ls : Array Slot), gd < fuel → (MF SS o g gnm gsp k_40 gwr gwa gsen gra gpa gki x_1) → (dg (fld SS o 0)) → (RIN g k_40 (fld SS o 0) gwr gwa gsen gnm gpa gki gsp gd gdf gmn gkf) → Ty cy L kap (pr.1, 0) SS → Fr kap [12, 50, 51, 53, 54, 112] S SS → Fr kap [12, 50, 53, 112] S_49 SS → PW dC dI L (AL L s.heap.size) s.heap SS H locs → lv_has ls 5 [(4, .int (nI i)), (3, .int (nI x_7)), (2, .int (nI x_6)), (0, .ref o), (1, .int (nI k_40))] → W p l e (headSpec (wT yX12_tell cX12_tell 5 (some .int)) { frames := 11, cells := 0, slots := 0, locals := 247 }).room s m [.ref o, .int (nI k_40)].toArray below meth c H locs 0 0 (MQ below (va_Qi (fun r S' => Ty cy L kap (pr.1, tl (nI k_40) pr.2) S' ∧ Fr kap [12, 50, 51, 53, 54, 112] S S' ∧ (dg (fld S' o 0) ∧ fld S' o 9 = g ∧ TLX g pr.2 (nI k_40) (inf (S o) 13) (inf (S o) 14) (inf (S' o) 13) (inf (S' o) 14) r)) (fun S' t => pB dC dI (AL L s.heap.size) (va_pl L S') (cyT cy) t) (AL L s.heap.size)) [.ref o, .int (nI k_40)].toArray s 0 0 (AL L s.heap.size)) (F0 m 127 ls []) := by
                  intro fuel
                  induction fuel with
                  | zero => intro gsp gwr gwa gsen gra gnm gpa gki gd gdf gmn gkf SS H locs ls h; exact absurd h (Nat.not_lt_zero _)
                  | succ fu127 ih127 =>
                    intro gsp gwr gwa gsen gra gnm gpa gki gd gdf gmn gkf S_83 H locs ls hm127 hgM hgD hgR hTy hFr hFl127 hW hl
                    have hS_x_10 := hFl127.at hT_x_10 (by decide) hS_x_10
                    have hVs := hFl127.at hT_x_2 (by decide) hVs
                    have hS_x_59 := hFl127.at hT_x_59 (by decide) hS_x_59
                    obtain ⟨x_84, x_85, x_86, x_87, x_88, x_89, x_90, x_91, x_92, x_93, x_94, x_95, x_96, x_97, x_98, x_99, x_100, x_101, x_102, x_103, x_104, x_105, x_106, x_107, x_108, x_109, x_110, x_111, x_112, x_113, x_114, hS_o, hT_x_84, hT_x_85, hT_x_86, hT_x_87, hT_x_88, hb_x_89, hb_x_90, hb_x_91, hT_x_93, hb_q2, hb_x_94, hb_x_95, hT_x_100, hT_x_101, hb_x_102, hT_x_103, hT_x_104, hT_x_105, hT_x_106, hT_x_107, hT_x_108, hT_x_109, hT_x_110, hT_x_111, hT_x_112, hT_x_113, hb_x_114⟩ := hTy.k12 hT_o
                    have hb_q2 : 0 ≤ 900 := hb_q2
                    have hS_o : S_83 o = .inr (12, [.ref x_84, .ref x_85, .ref x_86, .ref x_87, .ref x_88, .int (nI x_89), .int (nI x_90), .int (nI x_91), .int x_92, .ref x_93, .int (nI (0)), .int (nI x_94), .int (nI x_95), .int x_96, .int x_97, .int x_98, .int x_99, .ref x_100, .ref x_101, .int (nI x_102), .ref x_103, .ref x_104, .ref x_105, .ref x_106, .ref x_107, .ref x_108, .ref x_109, .ref x_110, .ref x_111, .ref x_112, .ref x_113, .int (nI x_114)]) := hS_o
                    obtain ⟨hMK_, h14_, h15_, h16_, h9_, h3_⟩ := hgM
                    obtain ⟨e12_, e11_, e13_, e5_, e6_, e0_⟩ := MKe hMK_ hS_o rfl rfl rfl rfl rfl rfl (by omega) (by omega) (by omega) (by omega)
                    subst e12_ e11_ e13_ e5_ e6_ e0_
                    have e14_ := h14_.symm.trans (inf_i hS_o rfl)
                    subst e14_
                    have e15_ := h15_.symm.trans (inf_i hS_o rfl)
                    subst e15_
                    have e16_ := h16_.symm.trans (inf_i hS_o rfl)
                    subst e16_
                    obtain ⟨f_115, hS_x_93⟩ := hTy.k55 hT_x_93
                    have e9_ := h9_.symm.trans (fld_i hS_o rfl hS_x_93)
                    subst e9_
                    obtain ⟨f_116, hS_x_87⟩ := hTy.k53 hT_x_87
                    have e3_ := h3_.symm.trans (lfd_i hS_o rfl hS_x_87)
                    subst e3_
                    obtain ⟨f_117, hS_x_1, hi_f_117⟩ := hTy.k50 hT_x_1
                    have hdg_ : dg f_117 := by have q := hgD; rw [fld_i hS_o rfl hS_x_1] at q; exact q
                    have hgR_ := hgR
                    rw [fld_i hS_o rfl hS_x_1] at hgR_
                    refine lv_aload_n hx hb dX12_tell_127 rfl (lv_at hl 3 rfl) ?_
                    refine pl_get (ci := 12) (v := .int gwr) (C := RX12) (T := TX12) (N := 32) hx hb hT iX12 hown hK hW hT_o.1 hS_o rfl 13 (by decide) w1095 rfl dX12_tell_128 ?_
                    refine lv_if_ne (tgt := 149) hx hb dX12_tell_131 (by decide) (fun c_131 => ?_) (fun c_131 => ?_)
                    · have hfin : (TX g k_40).1 ≠ 0 ∧ gwr = nI (TX g k_40).1 ∧ gwa = nI (TX g k_40).2.1 := (hgR_.resolve_left (fun z => c_131 z.1)).2
                      refine lv_aload_n hx hb dX12_tell_149 rfl (lv_at hl 3 rfl) ?_
                      refine pl_get (ci := 12) (v := .int gwr) (C := RX12) (T := TX12) (N := 32) hx hb hT iX12 hown hK hW hT_o.1 hS_o rfl 13 (by decide) w1095 rfl dX12_tell_150 ?_
                      refine lv_if_ne (tgt := 168) hx hb dX12_tell_153 (by decide) (fun _ => ?_) (fun h => absurd h c_131)
                      obtain rfl : x_2 = x_85 := hu51 _ _ hT_x_2 hT_x_85
                      refine lv_aload_n hx hb dX12_tell_168 rfl (lv_at hl 3 rfl) ?_
                      refine lv_iload_n hx hb dX12_tell_169 rfl (lv_at hl 2 rfl) ?_
                      refine pl_put (ci := 12) (v := .int (nI x_6)) (ty := .int) (C := RX12) (T := TX12) (N := 32) (fs' := [.ref x_1, .ref x_2, .ref x_86, .ref x_87, .ref x_88, .int (nI x_6), .int (nI gki), .int (nI x_91), .int x_92, .ref x_93, .int (nI (0)), .int (nI k_40), .int (nI gsp), .int gwr, .int gwa, .int gsen, .int gra, .ref x_100, .ref x_101, .int (nI x_102), .ref x_103, .ref x_104, .ref x_105, .ref x_106, .ref x_107, .ref x_108, .ref x_109, .ref x_110, .ref x_111, .ref x_112, .ref x_113, .int (nI x_114)]) hx hb hT iX12 tyX12 tyX12_ok nmX12 hown hK hW hT_o.1 hS_o rfl 5 (by decide) w1087 rfl (by decide +kernel) rfl rfl (Nat.le_of_ble_eq_true rfl) rfl dX12_tell_170 (fun H locs S_118 e1 hW => ?_)
                      have hTy := hTy.u12 e1 hT_o ⟨x_1, x_2, x_86, x_87, x_88, x_6, gki, x_91, x_92, x_93, k_40, gsp, gwr, gwa, gsen, gra, x_100, x_101, x_102, x_103, x_104, x_105, x_106, x_107, x_108, x_109, x_110, x_111, x_112, x_113, x_114, rfl, hT_x_1, hT_x_2, hT_x_86, hT_x_87, hT_x_88, (by omega), (by omega), (by omega), hT_x_93, (by show 0 ≤ 900; omega), (by omega), (by omega), hT_x_100, hT_x_101, (by omega), hT_x_103, hT_x_104, hT_x_105, hT_x_106, hT_x_107, hT_x_108, hT_x_109, hT_x_110, hT_x_111, hT_x_112, hT_x_113, (by omega)⟩
                      have hS_x_10 := un e1 hT_x_10 hT_o (by decide) hS_x_10
                      have hVs := un e1 hT_x_2 hT_o (by decide) hVs
                      have hS_x_59 := un e1 hT_x_59 hT_o (by decide) hS_x_59
                      have hS_x_93 := un e1 hT_x_93 hT_o (by decide) hS_x_93
                      have hS_x_87 := un e1 hT_x_87 hT_o (by decide) hS_x_87
                      have hS_x_1 := un e1 hT_x_1 hT_o (by decide) hS_x_1
                      have hws := (show wrs (.inr (12, [.ref x_1, .ref x_2, .ref x_86, .ref x_87, .ref x_88, .int (nI x_6), .int (nI gki), .int (nI x_91), .int x_92, .ref x_93, .int (nI (0)), .int (nI k_40), .int (nI gsp), .int gwr, .int gwa, .int gsen, .int gra, .ref x_100, .ref x_101, .int (nI x_102), .ref x_103, .ref x_104, .ref x_105, .ref x_106, .ref x_107, .ref x_108, .ref x_109, .ref x_110, .ref x_111, .ref x_112, .ref x_113, .int (nI x_114)])) = wrs (S_83 o) from by rw [hS_o]; rfl)
                      have hFr := ufs hFr e1 hT_o (by decide) hws
                      have hFl127 := ufs hFl127 e1 hT_o (by decide) hws
                      have hS_o := us e1
                      refine lv_aload_n hx hb dX12_tell_173 rfl (lv_at hl 3 rfl) ?_
                      refine lv_iload_n hx hb dX12_tell_174 rfl (lv_at hl 1 rfl) ?_
                      refine pl_put (ci := 12) (v := .int (nI x_7)) (ty := .int) (C := RX12) (T := TX12) (N := 32) (fs' := [.ref x_1, .ref x_2, .ref x_86, .ref x_87, .ref x_88, .int (nI x_6), .int (nI x_7), .int (nI x_91), .int x_92, .ref x_93, .int (nI (0)), .int (nI k_40), .int (nI gsp), .int gwr, .int gwa, .int gsen, .int gra, .ref x_100, .ref x_101, .int (nI x_102), .ref x_103, .ref x_104, .ref x_105, .ref x_106, .ref x_107, .ref x_108, .ref x_109, .ref x_110, .ref x_111, .ref x_112, .ref x_113, .int (nI x_114)]) hx hb hT iX12 tyX12 tyX12_ok nmX12 hown hK hW hT_o.1 hS_o rfl 6 (by decide) w1088 rfl (by decide +kernel) rfl rfl (Nat.le_of_ble_eq_true rfl) rfl dX12_tell_175 (fun H locs S_119 e1 hW => ?_)
                      have hTy := hTy.u12 e1 hT_o ⟨x_1, x_2, x_86, x_87, x_88, x_6, x_7, x_91, x_92, x_93, k_40, gsp, gwr, gwa, gsen, gra, x_100, x_101, x_102, x_103, x_104, x_105, x_106, x_107, x_108, x_109, x_110, x_111, x_112, x_113, x_114, rfl, hT_x_1, hT_x_2, hT_x_86, hT_x_87, hT_x_88, (by omega), (by omega), (by omega), hT_x_93, (by show 0 ≤ 900; omega), (by omega), (by omega), hT_x_100, hT_x_101, (by omega), hT_x_103, hT_x_104, hT_x_105, hT_x_106, hT_x_107, hT_x_108, hT_x_109, hT_x_110, hT_x_111, hT_x_112, hT_x_113, (by omega)⟩
                      have hS_x_10 := un e1 hT_x_10 hT_o (by decide) hS_x_10
                      have hVs := un e1 hT_x_2 hT_o (by decide) hVs
                      have hS_x_59 := un e1 hT_x_59 hT_o (by decide) hS_x_59
                      have hS_x_93 := un e1 hT_x_93 hT_o (by decide) hS_x_93
                      have hS_x_87 := un e1 hT_x_87 hT_o (by decide) hS_x_87
                      have hS_x_1 := un e1 hT_x_1 hT_o (by decide) hS_x_1
                      have hws := (show wrs (.inr (12, [.ref x_1, .ref x_2, .ref x_86, .ref x_87, .ref x_88, .int (nI x_6), .int (nI x_7), .int (nI x_91), .int x_92, .ref x_93, .int (nI (0)), .int (nI k_40), .int (nI gsp), .int gwr, .int gwa, .int gsen, .int gra, .ref x_100, .ref x_101, .int (nI x_102), .ref x_103, .ref x_104, .ref x_105, .ref x_106, .ref x_107, .ref x_108, .ref x_109, .ref x_110, .ref x_111, .ref x_112, .ref x_113, .int (nI x_114)])) = wrs (S_118 o) from by rw [hS_o]; rfl)
                      have hFr := ufs hFr e1 hT_o (by decide) hws
                      have hFl127 := ufs hFl127 e1 hT_o (by decide) hws
                      have hS_o := us e1
                      refine lv_iconst (v := 0) hx hb dX12_tell_178 (by decide) ?_
                      refine lv_istore (lv' := [(4, .int 0), (3, .int (nI x_7)), (2, .int (nI x_6)), (0, .ref o), (1, .int (nI k_40))]) hx hb dX12_tell_179 hl (by decide) rfl (fun ls hl => ?_)
                      have loop : ∀ (fuel : Nat) (i : Nat) (gr : Nat → Int32) (SS : Nat → va_E) (H : Heap) (locs : List Loc) (ls : Array Slot), 267 - i < fuel → (i ≤ 266) → (SS x_1 = .inl (cy 0, 266, .inl gr)) → (∀ j, j < i → gr j = gv j) → Ty cy L kap (pr.1, 0) SS → Fr kap [12, 50, 51, 53, 54, 112] S SS → Fr kap [50] S_119 SS → PW dC dI L (AL L s.heap.size) s.heap SS H locs → lv_has ls 5 [(4, .int (nI i)), (3, .int (nI x_7)), (2, .int (nI x_6)), (0, .ref o), (1, .int (nI k_40))] → W p l e (headSpec (wT yX12_tell cX12_tell 5 (some .int)) { frames := 11, cells := 0, slots := 0, locals := 247 }).room s m [.ref o, .int (nI k_40)].toArray below meth c H locs 0 0 (MQ below (va_Qi (fun r S' => Ty cy L kap (pr.1, tl (nI k_40) pr.2) S' ∧ Fr kap [12, 50, 51, 53, 54, 112] S S' ∧ (dg (fld S' o 0) ∧ fld S' o 9 = g ∧ TLX g pr.2 (nI k_40) (inf (S o) 13) (inf (S o) 14) (inf (S' o) 13) (inf (S' o) 14) r)) (fun S' t => pB dC dI (AL L s.heap.size) (va_pl L S') (cyT cy) t) (AL L s.heap.size)) [.ref o, .int (nI k_40)].toArray s 0 0 (AL L s.heap.size)) (F0 m 181 ls []) := by
                        intro fuel
                        induction fuel with
                        | zero => intro i gr SS H locs ls h; exact absurd h (Nat.not_lt_zero _)
                        | succ fu181 ih181 =>
                          intro i gr S_120 H locs ls hm181 hb_i hRs hcr hTy hFr hFl181 hW hl
                          have hS_x_10 := hFl181.at hT_x_10 (by decide) hS_x_10
                          have hVs := hFl181.at hT_x_2 (by decide) hVs
                          have hS_x_59 := hFl181.at hT_x_59 (by decide) hS_x_59
                          have hS_o := hFl181.at hT_o (by decide) hS_o
                          have hS_x_93 := hFl181.at hT_x_93 (by decide) hS_x_93
                          have hS_x_87 := hFl181.at hT_x_87 (by decide) hS_x_87
                          have hFl127 := hFl127.tr hFl181 (by decide)
                          have hi_gr := k50i hTy hT_x_1 hRs
                          refine lv_iload hx hb dX12_tell_181 (lv_at hl 0 rfl) ?_
                          refine lv_sipush (v := 266) hx hb dX12_tell_183 (by decide) ?_
                          refine lv_icmp_ge (tgt := 209) hx hb dX12_tell_186 (by decide) (fun c_186 => ?_) (fun c_186 => ?_)
                          · have c_186 : 266 ≤ i := (nI_leI (a := 266) (b := i) (by omega) (by omega)).mp c_186
                            have hdg_ : dg gr := dg_c hsv (fun j hj => hcr j (by omega))
                            refine lv_iconst (v := 0) hx hb dX12_tell_209 (by decide) ?_
                            refine lv_istore (lv' := [(4, .int 0), (3, .int (nI x_7)), (2, .int (nI x_6)), (0, .ref o), (1, .int (nI k_40))]) hx hb dX12_tell_210 hl (by decide) rfl (fun ls hl => ?_)
                            have loop : ∀ (fuel : Nat) (i : Nat) (SS : Nat → va_E) (H : Heap) (locs : List Loc) (ls : Array Slot), 13 - i < fuel → (i ≤ 12) → Ty cy L kap (pr.1, 0) SS → Fr kap [12, 50, 51, 53, 54, 112] S SS → Fr kap [53] S_120 SS → PW dC dI L (AL L s.heap.size) s.heap SS H locs → lv_has ls 5 [(4, .int (nI i)), (3, .int (nI x_7)), (2, .int (nI x_6)), (0, .ref o), (1, .int (nI k_40))] → W p l e (headSpec (wT yX12_tell cX12_tell 5 (some .int)) { frames := 11, cells := 0, slots := 0, locals := 247 }).room s m [.ref o, .int (nI k_40)].toArray below meth c H locs 0 0 (MQ below (va_Qi (fun r S' => Ty cy L kap (pr.1, tl (nI k_40) pr.2) S' ∧ Fr kap [12, 50, 51, 53, 54, 112] S S' ∧ (dg (fld S' o 0) ∧ fld S' o 9 = g ∧ TLX g pr.2 (nI k_40) (inf (S o) 13) (inf (S o) 14) (inf (S' o) 13) (inf (S' o) 14) r)) (fun S' t => pB dC dI (AL L s.heap.size) (va_pl L S') (cyT cy) t) (AL L s.heap.size)) [.ref o, .int (nI k_40)].toArray s 0 0 (AL L s.heap.size)) (F0 m 212 ls []) := by
                              intro fuel
                              induction fuel with
                              | zero => intro i SS H locs ls h; exact absurd h (Nat.not_lt_zero _)
                              | succ fu212 ih212 =>
                                intro i S_121 H locs ls hm212 hb_i hTy hFr hFl212 hW hl
                                have hS_x_10 := hFl212.at hT_x_10 (by decide) hS_x_10
                                have hVs := hFl212.at hT_x_2 (by decide) hVs
                                have hS_x_59 := hFl212.at hT_x_59 (by decide) hS_x_59
                                have hS_o := hFl212.at hT_o (by decide) hS_o
                                have hS_x_93 := hFl212.at hT_x_93 (by decide) hS_x_93
                                have hRs := hFl212.at hT_x_1 (by decide) hRs
                                have hFl127 := hFl127.tr hFl212 (by decide)
                                refine lv_iload hx hb dX12_tell_212 (lv_at hl 0 rfl) ?_
                                refine lv_bipush (v := 12) hx hb dX12_tell_214 (by decide) ?_
                                refine lv_icmp_ge (tgt := 239) hx hb dX12_tell_216 (by decide) (fun c_216 => ?_) (fun c_216 => ?_)
                                · have c_216 : 12 ≤ i := (nI_leI (a := 12) (b := i) (by omega) (by omega)).mp c_216
                                  refine lv_bipush (v := (-30)) hx hb dX12_tell_239 (by decide) ?_
                                  refine lv_aload_n hx hb dX12_tell_241 rfl (lv_at hl 3 rfl) ?_
                                  refine pl_get (ci := 12) (v := .int gwr) (C := RX12) (T := TX12) (N := 32) hx hb hT iX12 hown hK hW hT_o.1 hS_o rfl 13 (by decide) w1095 rfl dX12_tell_242 ?_
                                  refine lv_isub hx hb dX12_tell_245 ?_
                                  refine lv_topi (fun z_122 ez_122 => ?_)
                                  have hTy : Ty cy L kap (pr.1, tl (nI k_40) pr.2) S_121 := (by rw [tl_3 hb_k_40 (by omega)]; exact hTy)
                                  exact W.iret (v := z_122) hx hb hr (fun t ht h9 => ⟨⟨z_122, S_121, rfl, ⟨hTy, hFr, ⟨(by rw [fld_i hS_o rfl hRs]; exact hdg_), by rw [fld_i hS_o rfl hS_x_93], by rw [hw13_, hw14_, (show inf (S_121 o) 13 = _ from inf_i hS_o rfl), (show inf (S_121 o) 14 = _ from inf_i hS_o rfl)]; exact Or.inr ⟨k_40, rfl, by omega, hfin.2.1, Or.inr ⟨hfin.1, hfin.2.2, by rw [ez_122, hfin.2.1]⟩⟩⟩⟩, by rw [ht]; exact hW.1, va_K.moved h9.alike hK, hW.2.1⟩, hW.2.2.F ht⟩) hW.2.2.2.2 dX12_tell_246
                                · have c_216 : ¬ (12 ≤ i) := fun hh9 => c_216 ((nI_leI (a := 12) (b := i) (by omega) (by omega)).mpr hh9)
                                  refine lv_aload_n hx hb dX12_tell_219 rfl (lv_at hl 3 rfl) ?_
                                  refine pl_get (ci := 12) (v := .ref x_87) (C := RX12) (T := TX12) (N := 32) hx hb hT iX12 hown hK hW hT_o.1 hS_o rfl 3 (by decide) w1085 rfl dX12_tell_220 ?_
                                  refine lv_iload hx hb dX12_tell_223 (lv_at hl 0 rfl) ?_
                                  refine lv_aload_n hx hb dX12_tell_225 rfl (lv_at hl 3 rfl) ?_
                                  refine pl_get (ci := 12) (v := .ref x_88) (C := RX12) (T := TX12) (N := 32) hx hb hT iX12 hown hK hW hT_o.1 hS_o rfl 4 (by decide) w1086 rfl dX12_tell_226 ?_
                                  refine lv_iload hx hb dX12_tell_229 (lv_at hl 0 rfl) ?_
                                  obtain ⟨f_123, hS_x_88⟩ := hTy.k54 hT_x_88
                                  refine pl_lald hx hb hK hW hT_x_88.1 hS_x_88 (vp_in_nI (n := i) (N := 12) (by omega) (by omega)) dX12_tell_231 ?_
                                  refine lv_topl (fun y_124 ey_124 => ?_)
                                  obtain ⟨f_125, hS_x_87⟩ := hTy.k53 hT_x_87
                                  refine pl_last hx hb hK hW hT_x_87.1 hS_x_87 (vp_in_nI (n := i) (N := 12) (by omega) (by omega)) dX12_tell_232 (fun H locs f_127 S_126 ef_f_127 e1 hW => ?_)
                                  have hTy := hTy.u53 e1 hT_x_87 ⟨f_127, rfl⟩
                                  have hS_x_10 := un e1 hT_x_10 hT_x_87 (by decide) hS_x_10
                                  have hVs := un e1 hT_x_2 hT_x_87 (by decide) hVs
                                  have hS_x_59 := un e1 hT_x_59 hT_x_87 (by decide) hS_x_59
                                  have hS_o := un e1 hT_o hT_x_87 (by decide) hS_o
                                  have hS_x_93 := un e1 hT_x_93 hT_x_87 (by decide) hS_x_93
                                  have hRs := un e1 hT_x_1 hT_x_87 (by decide) hRs
                                  have hS_x_88 := un e1 hT_x_88 hT_x_87 (by decide) hS_x_88
                                  have hFr := uf hFr e1 hT_x_87 (by decide) (by decide)
                                  have hFl127 := uf hFl127 e1 hT_x_87 (by decide) (by decide)
                                  have hFl212 := uf hFl212 e1 hT_x_87 (by decide) (by decide)
                                  have hS_x_87 := us e1
                                  refine lv_iinc (v := nI (i + 1)) (lv' := [(4, .int (nI (i + 1))), (3, .int (nI x_7)), (2, .int (nI x_6)), (0, .ref o), (1, .int (nI k_40))]) hx hb dX12_tell_233 hl (k := 0) rfl (nI_add (i) 1) (by decide) rfl (fun ls hl => ?_)
                                  refine lv_goto (tgt := 212) hx hb dX12_tell_236 (by decide) ?_
                                  exact ih212 (i + 1) _ _ _ ls (by omega) (by omega) hTy hFr hFl212 hW (lv_sub hl [0, 1, 2, 3, 4] rfl)
                            exact loop ((13 - 0) + 1) 0 _ _ _ ls (Nat.lt_succ_self _) (by omega) hTy hFr Fr.rf hW (lv_sub hl [0, 1, 2, 3, 4] rfl)
                          · have c_186 : ¬ (266 ≤ i) := fun hh9 => c_186 ((nI_leI (a := 266) (b := i) (by omega) (by omega)).mpr hh9)
                            refine lv_aload_n hx hb dX12_tell_189 rfl (lv_at hl 3 rfl) ?_
                            refine pl_get (ci := 12) (v := .ref x_1) (C := RX12) (T := TX12) (N := 32) hx hb hT iX12 hown hK hW hT_o.1 hS_o rfl 0 (by decide) w1082 rfl dX12_tell_190 ?_
                            refine lv_iload hx hb dX12_tell_193 (lv_at hl 0 rfl) ?_
                            refine lv_aload_n hx hb dX12_tell_195 rfl (lv_at hl 3 rfl) ?_
                            refine pl_get (ci := 12) (v := .ref x_2) (C := RX12) (T := TX12) (N := 32) hx hb hT iX12 hown hK hW hT_o.1 hS_o rfl 1 (by decide) w1083 rfl dX12_tell_196 ?_
                            refine lv_iload hx hb dX12_tell_199 (lv_at hl 0 rfl) ?_
                            refine pl_iald hx hb hK hW hT_x_2.1 hVs (vp_in_nI (n := i) (N := 266) (by omega) (by omega)) dX12_tell_201 ?_
                            refine lv_topi (fun y_128 ey_128 => ?_)
                            have hv_y_128 : okS (i) y_128 := by rw [ey_128]; show okS _ (gv (nI (i)).toNatClampNeg); rw [nI_clamp (by omega)]; exact hi_gv (i) (by omega)
                            refine pl_iast hx hb hK hW hT_x_1.1 hRs (vp_in_nI (n := i) (N := 266) (by omega) (by omega)) dX12_tell_202 (fun H locs f_130 S_129 ef_f_130 e1 hW => ?_)
                            have hi_f_130 := okS_up (i := i) (by omega) hi_gr ef_f_130 hv_y_128
                            have hTy := hTy.u50 e1 hT_x_1 ⟨f_130, rfl, hi_f_130⟩
                            have hS_x_10 := un e1 hT_x_10 hT_x_1 (by decide) hS_x_10
                            have hVs := un e1 hT_x_2 hT_x_1 (by decide) hVs
                            have hS_x_59 := un e1 hT_x_59 hT_x_1 (by decide) hS_x_59
                            have hS_o := un e1 hT_o hT_x_1 (by decide) hS_o
                            have hS_x_93 := un e1 hT_x_93 hT_x_1 (by decide) hS_x_93
                            have hS_x_87 := un e1 hT_x_87 hT_x_1 (by decide) hS_x_87
                            have hFr := uf hFr e1 hT_x_1 (by decide) (by decide)
                            have hFl127 := uf hFl127 e1 hT_x_1 (by decide) (by decide)
                            have hFl181 := uf hFl181 e1 hT_x_1 (by decide) (by decide)
                            have hRs := us e1
                            have hcr1 := cpy_up (P := fun j x => x = gv j) ef_f_130 (by omega) hcr (by show _ = _; rw [ey_128, nI_clamp (by omega)])
                            refine lv_iinc (v := nI (i + 1)) (lv' := [(4, .int (nI (i + 1))), (3, .int (nI x_7)), (2, .int (nI x_6)), (0, .ref o), (1, .int (nI k_40))]) hx hb dX12_tell_203 hl (k := 0) rfl (nI_add (i) 1) (by decide) rfl (fun ls hl => ?_)
                            refine lv_goto (tgt := 181) hx hb dX12_tell_206 (by decide) ?_
                            exact ih181 (i + 1) f_130 _ _ _ ls (by omega) (by omega) hRs hcr1 hTy hFr hFl181 hW (lv_sub hl [0, 1, 2, 3, 4] rfl)
                      exact loop ((267 - 0) + 1) 0 f_117 _ _ _ ls (Nat.lt_succ_self _) (by omega) hS_x_1 (fun j h => absurd h (Nat.not_lt_zero _)) hTy hFr Fr.rf hW (lv_sub hl [0, 1, 2, 3, 4] rfl)
                    · obtain ⟨hr1, hr2, hr3, hr4, hr5, hr6, hr7⟩ := RIN_g hgR_ c_131
                      have hsm_ := hr6
                      refine lv_aload_n hx hb dX12_tell_134 rfl (lv_at hl 3 rfl) ?_
                      refine pl_calli (va_runV (As := []) (rest := []) ⟨hx, hb, hml, hown, hT⟩ (f_peek l dC dI cy L kap (pr.1, 0) S_83 H.size o hTy hT_o g gnm gsp k_40 gwr gwa gsen gra gpa gki x_1 ⟨MKi (sp := gsp) (sn := k_40) (pa := gpa) (ki := gki) hS_o rfl rfl rfl rfl rfl rfl (by omega) (by omega) (by omega) (by omega), inf_i hS_o rfl, inf_i hS_o rfl, inf_i hS_o rfl, fld_i hS_o rfl hS_x_93, lfd_i hS_o rfl hS_x_87⟩ (by omega) hg) (cwV 0 hT (gV w1190 w1192 ws55 w14 w1193) rfl rfl rfl (by decide +kernel) ⟨(Nat.le_of_ble_eq_true rfl), (Nat.le_of_ble_eq_true rfl)⟩) ⟨pcN.blind, pl_recv hK hW hT_o.1 hS_o rfl, pcN.pre hW.1 hK hW.2.1 hN (fun q h => absurd h List.not_mem_nil)⟩ rfl rfl hl.1 rfl (lv_room (Nat.le_of_ble_eq_true rfl)) dX12_tell_135 ⟨(Nat.le_of_ble_eq_true rfl), (Nat.le_of_ble_eq_true rfl)⟩) hW hA0 hA (fun r_132 S_131 H locs hrel hW => ?_)
                      obtain ⟨hTy, hF1, hx1⟩ := hrel
                      have hFr := hFr.tr hF1 (by decide)
                      have hFl127 := hFl127.tr hF1 (by decide)
                      have hS_x_10 := hF1.at hT_x_10 (by decide) hS_x_10
                      have hVs := hF1.at hT_x_2 (by decide) hVs
                      have hS_x_59 := hF1.at hT_x_59 (by decide) hS_x_59
                      have hS_x_93 := hF1.at hT_x_93 (by decide) hS_x_93
                      have hS_x_87 := hF1.at hT_x_87 (by decide) hS_x_87
                      have hS_x_1 := hF1.at hT_x_1 (by decide) hS_x_1
                      have hpk_ := hx1.2
                      have hpb_ := SK_le (g := g) (n := k_40) (i := gsp) (by omega)
                      have hpg_ := SK_ge (g := g) (n := k_40) (i := gsp)
                      obtain ⟨x_133, x_134, x_135, x_136, x_137, x_138, x_139, x_140, x_141, x_142, x_143, x_144, x_145, x_146, x_147, x_148, x_149, x_150, x_151, x_152, x_153, x_154, x_155, x_156, x_157, x_158, x_159, x_160, x_161, x_162, x_163, hS_o, hT_x_133, hT_x_134, hT_x_135, hT_x_136, hT_x_137, hb_x_138, hb_x_139, hb_x_140, hT_x_142, hb_q2, hb_x_143, hb_x_144, hT_x_149, hT_x_150, hb_x_151, hT_x_152, hT_x_153, hT_x_154, hT_x_155, hT_x_156, hT_x_157, hT_x_158, hT_x_159, hT_x_160, hT_x_161, hT_x_162, hb_x_163⟩ := hTy.k12 hT_o
                      have hb_q2 : 0 ≤ 900 := hb_q2
                      have hS_o : S_131 o = .inr (12, [.ref x_133, .ref x_134, .ref x_135, .ref x_136, .ref x_137, .int (nI x_138), .int (nI x_139), .int (nI x_140), .int x_141, .ref x_142, .int (nI (0)), .int (nI x_143), .int (nI x_144), .int x_145, .int x_146, .int x_147, .int x_148, .ref x_149, .ref x_150, .int (nI x_151), .ref x_152, .ref x_153, .ref x_154, .ref x_155, .ref x_156, .ref x_157, .ref x_158, .ref x_159, .ref x_160, .ref x_161, .ref x_162, .int (nI x_163)]) := hS_o
                      obtain ⟨hMK_, h14_, h15_, h16_, h9_, h3_⟩ := hx1.1
                      obtain ⟨e12_, e11_, e13_, e5_, e6_, e0_⟩ := MKe hMK_ hS_o rfl rfl rfl rfl rfl rfl (by omega) (by omega) (by omega) (by omega)
                      subst e12_ e11_ e13_ e5_ e6_ e0_
                      have e14_ := h14_.symm.trans (inf_i hS_o rfl)
                      subst e14_
                      have e15_ := h15_.symm.trans (inf_i hS_o rfl)
                      subst e15_
                      have e16_ := h16_.symm.trans (inf_i hS_o rfl)
                      subst e16_
                      obtain ⟨f_164, hS_x_142⟩ := hTy.k55 hT_x_142
                      have e9_ := h9_.symm.trans (fld_i hS_o rfl hS_x_142)
                      subst e9_
                      obtain ⟨f_165, hS_x_136⟩ := hTy.k53 hT_x_136
                      have e3_ := h3_.symm.trans (lfd_i hS_o rfl hS_x_136)
                      subst e3_
                      refine lv_iconst (v := (-1)) hx hb dX12_tell_138 (by decide) ?_
                      refine lv_icmp_eq (tgt := 149) hx hb dX12_tell_139 (by decide) (fun c_139 => ?_) (fun c_139 => ?_)
                      · have hfin : TX g k_40 = (0, 0, gmn) := hr7.trans (RN_e (fun z => absurd c_139 (fun q => (PK_m hg (by omega)).mp (hpk_.symm.trans q) z)))
                        refine lv_aload_n hx hb dX12_tell_149 rfl (lv_at hl 3 rfl) ?_
                        refine pl_get (ci := 12) (v := .int gwr) (C := RX12) (T := TX12) (N := 32) hx hb hT iX12 hown hK hW hT_o.1 hS_o rfl 13 (by decide) w1095 rfl dX12_tell_150 ?_
                        refine lv_if_ne (tgt := 168) hx hb dX12_tell_153 (by decide) (fun h => absurd c_131 h) (fun _ => ?_)
                        refine lv_aload_n hx hb dX12_tell_156 rfl (lv_at hl 3 rfl) ?_
                        refine lv_iconst (v := 0) hx hb dX12_tell_157 (by decide) ?_
                        refine pl_put (ci := 12) (v := .int 0) (ty := .int) (C := RX12) (T := TX12) (N := 32) (fs' := [.ref x_1, .ref x_134, .ref x_135, .ref x_136, .ref x_137, .int (nI gpa), .int (nI gki), .int 0, .int x_141, .ref x_142, .int (nI (0)), .int (nI k_40), .int (nI (SK g k_40 gsp)), .int gwr, .int gwa, .int gsen, .int gra, .ref x_149, .ref x_150, .int (nI x_151), .ref x_152, .ref x_153, .ref x_154, .ref x_155, .ref x_156, .ref x_157, .ref x_158, .ref x_159, .ref x_160, .ref x_161, .ref x_162, .int (nI x_163)]) hx hb hT iX12 tyX12 tyX12_ok nmX12 hown hK hW hT_o.1 hS_o rfl 7 (by decide) w1089 rfl (by decide +kernel) rfl rfl (Nat.le_of_ble_eq_true rfl) rfl dX12_tell_158 (fun H locs S_166 e1 hW => ?_)
                        have hTy := hTy.u12 e1 hT_o ⟨x_1, x_134, x_135, x_136, x_137, gpa, gki, 0, x_141, x_142, k_40, SK g k_40 gsp, gwr, gwa, gsen, gra, x_149, x_150, x_151, x_152, x_153, x_154, x_155, x_156, x_157, x_158, x_159, x_160, x_161, x_162, x_163, rfl, hT_x_1, hT_x_134, hT_x_135, hT_x_136, hT_x_137, (by omega), (by omega), (by omega), hT_x_142, (by show 0 ≤ 900; omega), (by omega), (by omega), hT_x_149, hT_x_150, (by omega), hT_x_152, hT_x_153, hT_x_154, hT_x_155, hT_x_156, hT_x_157, hT_x_158, hT_x_159, hT_x_160, hT_x_161, hT_x_162, (by omega)⟩
                        have hS_x_10 := un e1 hT_x_10 hT_o (by decide) hS_x_10
                        have hVs := un e1 hT_x_2 hT_o (by decide) hVs
                        have hS_x_59 := un e1 hT_x_59 hT_o (by decide) hS_x_59
                        have hS_x_93 := un e1 hT_x_93 hT_o (by decide) hS_x_93
                        have hS_x_87 := un e1 hT_x_87 hT_o (by decide) hS_x_87
                        have hS_x_1 := un e1 hT_x_1 hT_o (by decide) hS_x_1
                        have hS_x_142 := un e1 hT_x_142 hT_o (by decide) hS_x_142
                        have hS_x_136 := un e1 hT_x_136 hT_o (by decide) hS_x_136
                        have hws := (show wrs (.inr (12, [.ref x_1, .ref x_134, .ref x_135, .ref x_136, .ref x_137, .int (nI gpa), .int (nI gki), .int 0, .int x_141, .ref x_142, .int (nI (0)), .int (nI k_40), .int (nI (SK g k_40 gsp)), .int gwr, .int gwa, .int gsen, .int gra, .ref x_149, .ref x_150, .int (nI x_151), .ref x_152, .ref x_153, .ref x_154, .ref x_155, .ref x_156, .ref x_157, .ref x_158, .ref x_159, .ref x_160, .ref x_161, .ref x_162, .int (nI x_163)])) = wrs (S_131 o) from by rw [hS_o]; rfl)
                        have hFr := ufs hFr e1 hT_o (by decide) hws
                        have hFl127 := ufs hFl127 e1 hT_o (by decide) hws
                        have hS_o := us e1
                        refine lv_aload_n hx hb dX12_tell_161 rfl (lv_at hl 3 rfl) ?_
                        refine pl_get (ci := 12) (v := .ref x_1) (C := RX12) (T := TX12) (N := 32) hx hb hT iX12 hown hK hW hT_o.1 hS_o rfl 0 (by decide) w1082 rfl dX12_tell_162 ?_
                        refine lv_iconst (v := 0) hx hb dX12_tell_165 (by decide) ?_
                        refine pl_iald hx hb hK hW hT_x_1.1 hS_x_1 (vp_in_nI (n := 0) (N := 266) (by omega) (by omega)) dX12_tell_166 ?_
                        refine lv_topi (fun y_167 ey_167 => ?_)
                        have hv_y_167 : okS (0) y_167 := by rw [ey_167]; show okS _ (f_117 (nI (0)).toNatClampNeg); rw [nI_clamp (by omega)]; exact hi_f_117 (0) (by omega)
                        obtain ⟨k_168, hb_k_168, hq_k_168⟩ := hv_y_167.1 rfl
                        obtain rfl : y_167 = nI k_168 := hq_k_168
                        have hTy : Ty cy L kap (pr.1, tl (nI k_40) pr.2) S_166 := (by rw [tl_3 hb_k_40 (by omega)]; exact hTy)
                        exact W.iret (v := nI k_168) hx hb hr (fun t ht h9 => ⟨⟨nI k_168, S_166, rfl, ⟨hTy, hFr, ⟨(by rw [fld_i hS_o rfl hS_x_1]; exact hdg_), by rw [fld_i hS_o rfl hS_x_142], by rw [hw13_, hw14_, (show inf (S_166 o) 13 = _ from inf_i hS_o rfl), (show inf (S_166 o) 14 = _ from inf_i hS_o rfl)]; exact Or.inr ⟨k_40, rfl, by omega, by rw [hfin]; exact c_131, Or.inl ⟨by rw [hfin], hr1, by rw [hfin, ey_167]; exact hr6.1⟩⟩⟩⟩, by rw [ht]; exact hW.1, va_K.moved h9.alike hK, hW.2.1⟩, hW.2.2.F ht⟩) hW.2.2.2.2 dX12_tell_167
                      · have hsk9 : SK g k_40 gsp < k_40 := by by_cases q : SK g k_40 gsp < k_40; exact q; exact absurd (hpk_.trans ((PK_m hg (by omega)).mpr q)) c_139
                        refine lv_aload_n hx hb dX12_tell_142 rfl (lv_at hl 3 rfl) ?_
                        refine pl_callv (va_runV (As := []) (rest := []) ⟨hx, hb, hml, hown, hT⟩ (f_line l dC dI cy L kap (pr.1, 0) ad S_131 H.size o hTy hT_o g gnm (SK g k_40 gsp) k_40 gwr gwa gsen gra gpa gki x_1 ⟨MKi (sp := (SK g k_40 gsp)) (sn := k_40) (pa := gpa) (ki := gki) hS_o rfl rfl rfl rfl rfl rfl (by omega) (by omega) (by omega) (by omega), inf_i hS_o rfl, inf_i hS_o rfl, inf_i hS_o rfl, fld_i hS_o rfl hS_x_142, lfd_i hS_o rfl hS_x_136⟩ (by omega) hg gdf hr4 hr5 gmn gkf (by rw [fld_i hS_o rfl hS_x_1]; exact hsm_) (by rw [fld_i hS_o rfl hS_x_1]; exact hdg_) c_131) (cwV 0 hT (gV w1194 w1196 ws56 w14 w1197) rfl rfl rfl (by decide +kernel) ⟨(Nat.le_of_ble_eq_true rfl), (Nat.le_of_ble_eq_true rfl)⟩) ⟨pcS.blind, pl_recv hK hW hT_o.1 hS_o rfl, pcS.pre hW.1 hK hW.2.1 hN hSTR hW.2.2⟩ rfl rfl hl.1 rfl (lv_room (Nat.le_of_ble_eq_true rfl)) dX12_tell_143 ⟨(Nat.le_of_ble_eq_true rfl), (Nat.le_of_ble_eq_true rfl)⟩) hW hA0 hA (fun S_169 H locs hrel hW => ?_)
                        obtain ⟨hTy, hF1, hx1⟩ := hrel
                        have hFr := hFr.tr hF1 (by decide)
                        have hFl127 := hFl127.tr hF1 (by decide)
                        have hS_x_10 := hF1.at hT_x_10 (by decide) hS_x_10
                        have hVs := hF1.at hT_x_2 (by decide) hVs
                        have hS_x_59 := hF1.at hT_x_59 (by decide) hS_x_59
                        have hS_x_93 := hF1.at hT_x_93 (by decide) hS_x_93
                        have hS_x_142 := hF1.at hT_x_142 (by decide) hS_x_142
                        obtain ⟨sp170, wr170, wa170, sen170, ra170, nm170, pa170, ki170, hM170, hER170, hOK170, hdg9_⟩ := hx1
                        have hgR1 := RIN_s hgR_ c_131 (by omega) hsk9 hER170 hOK170
                        obtain ⟨x_171, x_172, x_173, x_174, x_175, x_176, x_177, x_178, x_179, x_180, x_181, x_182, x_183, x_184, x_185, x_186, x_187, x_188, x_189, x_190, x_191, x_192, x_193, x_194, x_195, x_196, x_197, x_198, x_199, x_200, x_201, hS_o, hT_x_171, hT_x_172, hT_x_173, hT_x_174, hT_x_175, hb_x_176, hb_x_177, hb_x_178, hT_x_180, hb_q2, hb_x_181, hb_x_182, hT_x_187, hT_x_188, hb_x_189, hT_x_190, hT_x_191, hT_x_192, hT_x_193, hT_x_194, hT_x_195, hT_x_196, hT_x_197, hT_x_198, hT_x_199, hT_x_200, hb_x_201⟩ := hTy.k12 hT_o
                        have hb_q2 : 0 ≤ 900 := hb_q2
                        have hS_o : S_169 o = .inr (12, [.ref x_171, .ref x_172, .ref x_173, .ref x_174, .ref x_175, .int (nI x_176), .int (nI x_177), .int (nI x_178), .int x_179, .ref x_180, .int (nI (0)), .int (nI x_181), .int (nI x_182), .int x_183, .int x_184, .int x_185, .int x_186, .ref x_187, .ref x_188, .int (nI x_189), .ref x_190, .ref x_191, .ref x_192, .ref x_193, .ref x_194, .ref x_195, .ref x_196, .ref x_197, .ref x_198, .ref x_199, .ref x_200, .int (nI x_201)]) := hS_o
                        obtain ⟨hMK_, h14_, h15_, h16_, h9_, h3_⟩ := hM170
                        obtain ⟨e12_, e11_, e13_, e5_, e6_, e0_⟩ := MKe hMK_ hS_o rfl rfl rfl rfl rfl rfl (by omega) (by omega) (by omega) (by omega)
                        subst e12_ e11_ e13_ e5_ e6_ e0_
                        have e14_ := h14_.symm.trans (inf_i hS_o rfl)
                        subst e14_
                        have e15_ := h15_.symm.trans (inf_i hS_o rfl)
                        subst e15_
                        have e16_ := h16_.symm.trans (inf_i hS_o rfl)
                        subst e16_
                        obtain ⟨f_202, hS_x_180⟩ := hTy.k55 hT_x_180
                        have e9_ := h9_.symm.trans (fld_i hS_o rfl hS_x_180)
                        subst e9_
                        obtain ⟨f_203, hS_x_174⟩ := hTy.k53 hT_x_174
                        have e3_ := h3_.symm.trans (lfd_i hS_o rfl hS_x_174)
                        subst e3_
                        obtain ⟨f_204, hS_x_1, hi_f_204⟩ := hTy.k50 hT_x_1
                        have hdg_ : dg f_204 := by have q := hdg9_; rw [fld_i hS_o rfl hS_x_1] at q; exact q
                        refine lv_goto (tgt := 127) hx hb dX12_tell_146 (by decide) ?_
                        exact ih127 sp170 wr170 wa170 sen170 ra170 nm170 pa170 ki170 (gd - 1) (Ndf g k_40 (tkc g k_40 (SK g k_40 gsp) - 5) gpa gki gdf (tke g k_40 (SK g k_40 gsp))) (Nmn (tkc g k_40 (SK g k_40 gsp) - 5) gmn) (Nkf g k_40 (tkc g k_40 (SK g k_40 gsp) - 5) gmn gkf (tke g k_40 (SK g k_40 gsp))) _ _ _ ls (by omega) ⟨MKi (sp := sp170) (sn := k_40) (pa := pa170) (ki := ki170) hS_o rfl rfl rfl rfl rfl rfl (by omega) (by omega) (by omega) (by omega), inf_i hS_o rfl, inf_i hS_o rfl, inf_i hS_o rfl, fld_i hS_o rfl hS_x_180, lfd_i hS_o rfl hS_x_174⟩ (by rw [fld_i hS_o rfl hS_x_1]; exact hdg_) hgR1 hTy hFr hFl127 hW (lv_sub hl [0, 1, 2, 3, 4] rfl)
                obtain ⟨f_205, hS_x_1, hi_f_205⟩ := hTy.k50 hT_x_1
                have hdg_ : dg f_205 := dg_0 (by have q := hpl0_; rw [fld_i hS_o rfl hS_x_1] at q; exact q)
                exact loop ((902) + 1) 0 0 (-1) 0 x_16 f_35 0 0 902 (fun _ => (0, 0)) 0 (fun _ => false) _ _ _ ls (Nat.lt_succ_self _) ⟨MKi (sp := 0) (sn := k_40) (pa := 0) (ki := 0) hS_o rfl rfl rfl rfl rfl rfl (by omega) (by omega) (by omega) (by omega), inf_i hS_o rfl, inf_i hS_o rfl, inf_i hS_o rfl, fld_i hS_o rfl hS_x_59, lfd_i hS_o rfl hS_x_53⟩ (by rw [fld_i hS_o rfl hS_x_1]; exact hdg_) (RIN_0 hpl0_) hTy hFr Fr.rf hW (lv_sub hl [0, 1, 2, 3, 4] rfl)
              · have c_100 : ¬ (12 ≤ i) := fun hh9 => c_100 ((nI_leI (a := 12) (b := i) (by omega) (by omega)).mpr hh9)
                refine lv_aload_n hx hb dX12_tell_103 rfl (lv_at hl 3 rfl) ?_
                refine pl_get (ci := 12) (v := .ref x_5) (C := RX12) (T := TX12) (N := 32) hx hb hT iX12 hown hK hW hT_o.1 hS_o rfl 4 (by decide) w1086 rfl dX12_tell_104 ?_
                refine lv_iload hx hb dX12_tell_107 (lv_at hl 0 rfl) ?_
                refine lv_aload_n hx hb dX12_tell_109 rfl (lv_at hl 3 rfl) ?_
                refine pl_get (ci := 12) (v := .ref x_4) (C := RX12) (T := TX12) (N := 32) hx hb hT iX12 hown hK hW hT_o.1 hS_o rfl 3 (by decide) w1085 rfl dX12_tell_110 ?_
                refine lv_iload hx hb dX12_tell_113 (lv_at hl 0 rfl) ?_
                refine pl_lald hx hb hK hW hT_x_4.1 hS_x_4 (vp_in_nI (n := i) (N := 12) (by omega) (by omega)) dX12_tell_115 ?_
                refine lv_topl (fun y_206 ey_206 => ?_)
                obtain ⟨f_207, hS_x_5⟩ := hTy.k54 hT_x_5
                refine pl_last hx hb hK hW hT_x_5.1 hS_x_5 (vp_in_nI (n := i) (N := 12) (by omega) (by omega)) dX12_tell_116 (fun H locs f_209 S_208 ef_f_209 e1 hW => ?_)
                have hTy := hTy.u54 e1 hT_x_5 ⟨f_209, rfl⟩
                have hS_o := un e1 hT_o hT_x_5 (by decide) hS_o
                have hS_x_1 := un e1 hT_x_1 hT_x_5 (by decide) hS_x_1
                have hS_x_10 := un e1 hT_x_10 hT_x_5 (by decide) hS_x_10
                have hS_x_4 := un e1 hT_x_4 hT_x_5 (by decide) hS_x_4
                have hVs := un e1 hT_x_2 hT_x_5 (by decide) hVs
                have hFr := uf hFr e1 hT_x_5 (by decide) (by decide)
                have hFl96 := uf hFl96 e1 hT_x_5 (by decide) (by decide)
                have hS_x_5 := us e1
                refine lv_iinc (v := nI (i + 1)) (lv' := [(4, .int (nI (i + 1))), (3, .int (nI x_7)), (2, .int (nI x_6)), (0, .ref o), (1, .int (nI k_40))]) hx hb dX12_tell_117 hl (k := 0) rfl (nI_add (i) 1) (by decide) rfl (fun ls hl => ?_)
                refine lv_goto (tgt := 96) hx hb dX12_tell_120 (by decide) ?_
                exact ih96 (i + 1) _ _ _ ls (by omega) (by omega) hTy hFr hFl96 hW (lv_sub hl [0, 1, 2, 3, 4] rfl)
          exact loop ((13 - 0) + 1) 0 _ _ _ ls (Nat.lt_succ_self _) (by omega) hTy hFr Fr.rf hW (lv_sub hl [0, 1, 2, 3, 4] rfl)
        · have c_70 : ¬ (266 ≤ i) := fun hh9 => c_70 ((nI_leI (a := 266) (b := i) (by omega) (by omega)).mpr hh9)
          refine lv_aload_n hx hb dX12_tell_73 rfl (lv_at hl 3 rfl) ?_
          refine pl_get (ci := 12) (v := .ref x_2) (C := RX12) (T := TX12) (N := 32) hx hb hT iX12 hown hK hW hT_o.1 hS_o rfl 1 (by decide) w1083 rfl dX12_tell_74 ?_
          refine lv_iload hx hb dX12_tell_77 (lv_at hl 0 rfl) ?_
          refine lv_aload_n hx hb dX12_tell_79 rfl (lv_at hl 3 rfl) ?_
          refine pl_get (ci := 12) (v := .ref x_1) (C := RX12) (T := TX12) (N := 32) hx hb hT iX12 hown hK hW hT_o.1 hS_o rfl 0 (by decide) w1082 rfl dX12_tell_80 ?_
          refine lv_iload hx hb dX12_tell_83 (lv_at hl 0 rfl) ?_
          refine pl_iald hx hb hK hW hT_x_1.1 hS_x_1 (vp_in_nI (n := i) (N := 266) (by omega) (by omega)) dX12_tell_85 ?_
          refine lv_topi (fun y_210 ey_210 => ?_)
          have hv_y_210 : okS (i) y_210 := by rw [ey_210]; show okS _ (f_32 (nI (i)).toNatClampNeg); rw [nI_clamp (by omega)]; exact hi_f_32 (i) (by omega)
          refine pl_iast hx hb hK hW hT_x_2.1 hVs (vp_in_nI (n := i) (N := 266) (by omega) (by omega)) dX12_tell_86 (fun H locs f_212 S_211 ef_f_212 e1 hW => ?_)
          have hi_f_212 := okS_up (i := i) (by omega) hi_gv ef_f_212 hv_y_210
          have hTy := hTy.u51 e1 hT_x_2 ⟨f_212, rfl, hi_f_212⟩
          have hS_o := un e1 hT_o hT_x_2 (by decide) hS_o
          have hS_x_1 := un e1 hT_x_1 hT_x_2 (by decide) hS_x_1
          have hS_x_10 := un e1 hT_x_10 hT_x_2 (by decide) hS_x_10
          have hS_x_4 := un e1 hT_x_4 hT_x_2 (by decide) hS_x_4
          have hFr := uf hFr e1 hT_x_2 (by decide) (by decide)
          have hFl65 := uf hFl65 e1 hT_x_2 (by decide) (by decide)
          have hVs := us e1
          have hcp1 := cpy_up (P := fun j x => x = f_32 j) ef_f_212 (by omega) hcp (by show _ = _; rw [ey_210, nI_clamp (by omega)])
          refine lv_iinc (v := nI (i + 1)) (lv' := [(4, .int (nI (i + 1))), (3, .int (nI x_7)), (2, .int (nI x_6)), (0, .ref o), (1, .int (nI k_40))]) hx hb dX12_tell_87 hl (k := 0) rfl (nI_add (i) 1) (by decide) rfl (fun ls hl => ?_)
          refine lv_goto (tgt := 65) hx hb dX12_tell_90 (by decide) ?_
          exact ih65 (i + 1) f_212 _ _ _ ls (by omega) (by omega) hVs hcp1 hTy hFr hFl65 hW (lv_sub hl [0, 1, 2, 3, 4] rfl)
    exact loop ((267 - 0) + 1) 0 f_33 _ _ _ ls (Nat.lt_succ_self _) (by omega) hS_x_2 (fun j h => absurd h (Nat.not_lt_zero _)) hTy hFr Fr.rf hW (lv_sub hl [0, 1, 2, 3, 4] rfl)
  · obtain ⟨rfl, hin_⟩ := hc_
    refine lv_if_ne (tgt := 22) hx hb dX12_tell_16 (by decide) (fun h => absurd (by decide) h) (fun _ => ?_)
    refine lv_bipush (v := (-3)) hx hb dX12_tell_19 (by decide) ?_
    have hTy : Ty cy L kap (pr.1, tl tn pr.2) S_36 := (by rw [tl_4 ez_37 ez_38 hin_ (by omega)]; exact hTy)
    exact W.iret (v := (-3)) hx hb hr (fun t ht h9 => ⟨⟨(-3), S_36, rfl, ⟨hTy, hFr, ⟨(by rw [fld_i hS_o rfl hS_x_1]; exact hdg_), by rw [fld_i hS_o rfl hS_x_10], by rw [hw13_, hw14_, (show inf (S_36 o) 13 = _ from inf_i hS_o rfl), (show inf (S_36 o) 14 = _ from inf_i hS_o rfl)]; exact TLX_o ez_37 ez_38 hin_⟩⟩, by rw [ht]; exact hW.1, va_K.moved h9.alike hK, hW.2.1⟩, hW.2.2.F ht⟩) hW.2.2.2.2 dX12_tell_21

