/-! a line with its word and its end; the lines of a text -/
def FUL (w np nk mn : Nat) : Prop := (w = 0 ∧ np = 8) ∨ (w = 1 ∧ nk = 4) ∨ (w = 2 ∧ mn = 40)
def FLb (w np nk mn : Nat) : Bool := decide ((w = 0 ∧ np = 8) ∨ (w = 1 ∧ nk = 4) ∨ (w = 2 ∧ mn = 40))
theorem FLb_i {w np nk mn : Nat} : FLb w np nk mn = true ↔ FUL w np nk mn := decide_eq_true_iff
/-- the end of a line: its semicolon -/
def ES (g : Nat → Int32) (n p : Nat) : Nat × Nat := if tkc g n p = 2 then (0, 0) else (1, SK g n p)
def EL (g : Nat → Int32) (n : Nat) (df : Nat → Nat × Nat) (np nk mn : Nat) (kf : Nat → Bool) (md : Bool) (p : Nat) : Nat × Nat := if tkc g n p < 5 ∨ (tkc g n p - 5 = 5 ∧ md = true) then (1, SK g n p) else if FLb (tkc g n p - 5) np nk mn = true then (4, SK g n p) else fe (EB g n df np nk mn kf (tkc g n p - 5) (tke g n p)) (ES g n (PB g n (tkc g n p - 5) (tke g n p)))
def Nmd (w : Nat) (md : Bool) : Bool := if w = 5 then true else md
def PLn (g : Nat → Int32) (n p : Nat) : Nat := tke g n (PB g n (tkc g n p - 5) (tke g n p))
section LINE
variable {g : Nat → Int32} {n np nk w p mn : Nat} {df : Nat → Nat × Nat} {kf : Nat → Bool} {md : Bool}
theorem EL_0 (h : tkc g n p < 5) : EL g n df np nk mn kf md p = (1, SK g n p) := by
  unfold EL
  rw [if_pos (Or.inl h)]
theorem EL_1 (h : tkc g n p = w + 5) (h5 : w = 5) (hm : md = true) : EL g n df np nk mn kf md p = (1, SK g n p) := by
  unfold EL
  rw [if_pos (Or.inr ⟨by omega, hm⟩)]
theorem EL_4 (h : tkc g n p = w + 5) (h5 : w = 5 → md = false) (hf : FUL w np nk mn) : EL g n df np nk mn kf md p = (4, SK g n p) := by
  have e : tkc g n p - 5 = w := by omega
  unfold EL
  rw [e, if_neg (fun z => z.elim (fun q => by omega) (fun q => by rw [h5 q.1] at q; exact absurd q.2 (by decide))), if_pos (FLb_i.mpr hf)]
theorem EL_b (h : tkc g n p = w + 5) (h5 : w = 5 → md = false) (hf : ¬ FUL w np nk mn) : EL g n df np nk mn kf md p = fe (EB g n df np nk mn kf w (tke g n p)) (ES g n (PB g n w (tke g n p))) := by
  have e : tkc g n p - 5 = w := by omega
  unfold EL
  rw [e, if_neg (fun z => z.elim (fun q => by omega) (fun q => by rw [h5 q.1] at q; exact absurd q.2 (by decide))), if_neg (fun z => hf (FLb_i.mp z))]
theorem WR_c : (WR g n p = -1 ∧ tkc g n p < 5) ∨ ∃ w, w < 6 ∧ WR g n p = nI w ∧ tkc g n p = w + 5 ∧ tke g n p = LT g n (SK g n p) := by
  unfold WR
  by_cases h1 : SK g n p < n
  · by_cases hl : isL (g (SK g n p)) = true
    · rcases wdx_c g (SK g n p) (LT g n (SK g n p) - SK g n p) with ⟨-, hk⟩ | ⟨hw, hk⟩
      · left
        have e := (tk_name h1 hl hk).1
        have hq : tkc g n p < 5 := by rw [e]; split <;> omega
        exact ⟨if_neg (by omega), hq⟩
      · right
        obtain ⟨e, e2⟩ := tk_word h1 hl hw hk
        exact ⟨_, hw, by rw [if_pos (by omega), e, Nat.add_sub_cancel_left], by omega, e2⟩
    · left
      by_cases hd : isD (g (SK g n p)) = true
      · have e := (tk_num h1 hl hd).1
        exact ⟨if_neg (by omega), by omega⟩
      · have e := (tk_sign h1 hl hd).1
        have hq : tkc g n p < 5 := by rw [e]; split <;> omega
        exact ⟨if_neg (by omega), hq⟩
  · left
    have e := (tk_end h1).1
    exact ⟨if_neg (by omega), by omega⟩
theorem tk2_e (h : tkc g n p = 2) : tke g n p = SK g n p + 1 := by
  by_cases h1 : SK g n p < n
  · by_cases hl : isL (g (SK g n p)) = true
    · rcases wdx_c g (SK g n p) (LT g n (SK g n p) - SK g n p) with ⟨-, hk⟩ | ⟨hw, hk⟩
      · rw [(tk_name h1 hl hk).1] at h
        split at h <;> omega
      · rw [(tk_word h1 hl hw hk).1] at h
        omega
    · by_cases hd : isD (g (SK g n p)) = true
      · rw [(tk_num h1 hl hd).1] at h
        omega
      · exact (tk_sign h1 hl hd).2
  · rw [(tk_end h1).1] at h
    omega
theorem fe_b {a b : Nat × Nat} (ha : a.1 < 100) (hb : b.1 < 100) : (fe a b).1 < 100 := by
  unfold fe
  split
  · exact hb
  · exact ha
theorem E2_b : (E2 g n df np nk w p).1 < 100 := by
  unfold E2
  refine fe_b ptc_b (fe_b otc_b (fe_b nbc_b ?_))
  split
  · exact ptc_b
  · show 0 < 100
    omega
theorem EB_b : (EB g n df np nk mn kf w p).1 < 100 := by
  unfold EB
  split
  · exact nnc_b
  · split
    · refine fe_b nbc_b ?_
      split
      · show 5 < 100
        omega
      · show 0 < 100
        omega
    · split
      · exact nbc_b
      · exact E2_b
theorem ES_b : (ES g n p).1 < 100 := by
  unfold ES
  split
  · show 0 < 100
    omega
  · show 1 < 100
    omega
theorem EL_lt : (EL g n df np nk mn kf md p).1 < 100 := by
  unfold EL
  split
  · show 1 < 100
    omega
  · split
    · show 4 < 100
      omega
    · exact fe_b EB_b ES_b
theorem tke_i (hp : p ≤ n) (hn : n ≤ 900) : p ≤ tke g n p ∧ tke g n p ≤ n := by
  have h1 := tke_b (g := g) hp (by omega)
  have h2 := SK_ge (g := g) (n := n) (i := p)
  omega
theorem PB_i (hp : p ≤ n) (hn : n ≤ 900) : p ≤ PB g n w p ∧ PB g n w p ≤ n := by
  have h1 := tke_i (g := g) hp hn
  have h2 := tke_i (g := g) h1.2 hn
  have h3 := tke_i (g := g) h2.2 hn
  have h4 := tke_i (g := g) h3.2 hn
  unfold PB P2
  split
  · split <;> omega
  · exact h1
theorem FUL_i (hw : w < 6) : ((nI w = 0 ∧ np = 8) ∨ (nI w = 1 ∧ nk = 4) ∨ (nI w = 2 ∧ mn = 40)) ↔ FUL w np nk mn := by
  have e0 : nI w = 0 ↔ w = 0 := nI_eq (a := w) (b := 0) (by omega) (by omega)
  have e1 : nI w = 1 ↔ w = 1 := nI_eq (a := w) (b := 1) (by omega) (by omega)
  have e2 : nI w = 2 ↔ w = 2 := nI_eq (a := w) (b := 2) (by omega) (by omega)
  unfold FUL
  rw [e0, e1, e2]
theorem nI_m1 (hw : w < 6) : ¬ nI w = -1 := fun z => by
  have q := congrArg Int32.toInt z
  rw [nI_toInt (by omega)] at q
  have e : (-1 : Int32).toInt = -1 := by decide
  omega
theorem md_s {sen z o2 : Int32} (hw : w < 6) (ez : z = 1 <<< (nI w &&& 31)) (eo : o2 = sen ||| z) : bt o2 5 = Nmd w (bt sen 5) := by
  have q := sb_o (p := w) (q := 5) (by omega) (by omega) ez eo
  unfold Nmd
  by_cases h : w = 5
  · rw [if_pos h]
    exact q.mpr (Or.inr h.symm)
  · rw [if_neg h]
    cases hb : bt sen 5 with
    | true => exact q.mpr (Or.inl hb)
    | false =>
      cases hc : bt o2 5 with
      | false => rfl
      | true =>
        rcases q.mp hc with z1 | z1
        · rw [hb] at z1
          exact absurd z1 (by decide)
        · exact absurd z1.symm h
end LINE

set_option maxHeartbeats 4000000 in
set_option maxRecDepth 100000 in
theorem f_line (l : Launch) (dC : Nat → ClassId) (dI : Nat → Nat → Nat) (cy : Nat → ClassId) (L : List Nat) (kap : Nat → Nat) (pr : Pr) (ad : (Nat → Nat) × (Nat → Nat)) (S : Nat → va_E) (sz : Nat) (o : Nat) (hTy : Ty cy L kap pr S) (hT_o : TK L kap o 12) (g : Nat → Int32) (nm : Nat → Int64) (sp : Nat) (sn : Nat) (wr : Int32) (wa : Int32) (sen : Int32) (ra : Int32) (pa : Nat) (ki : Nat) (rs : Nat) (hM : MF S o g nm sp sn wr wa sen ra pa ki rs) (hsp : sp ≤ sn) (hg : BR g) (df : Nat → Nat × Nat) (hN0 : NMR g df nm 0 pa) (hN8 : NMR g df nm 8 ki) (mn : Nat) (kf : Nat → Bool) (hsm : SM (fld S o 0) mn kf) (hdg : dg (fld S o 0)) (hw0 : wr = 0) : Met l yX12_lineRead (wT yX12_lineRead cX12_lineRead 3 none) ({ frames := 10, cells := 0, slots := 0, locals := 225 }) (pcS dC dI [.ref o] sz L S (cyT cy) NLs ad) (va_Qv (fun S' => Ty cy L kap pr S' ∧ Fr kap [12, 50, 53, 112] S S' ∧ (∃ sp' wr' wa' sen' ra' nm' pa' ki', MF S' o g nm' sp' sn wr' wa' sen' ra' pa' ki' rs ∧ ERR wr wa (EL g sn df pa ki mn kf (bt sen 5) sp).1 (EL g sn df pa ki mn kf (bt sen 5) sp).2 wr' wa' ∧ ((EL g sn df pa ki mn kf (bt sen 5) sp).1 = 0 → sp' = PLn g sn sp ∧ sp' ≤ sn ∧ pa' = Nnp (tkc g sn sp - 5) pa ∧ ki' = Nnk (tkc g sn sp - 5) ki ∧ NMR g (Ndf g sn (tkc g sn sp - 5) pa ki df (tke g sn sp)) nm' 0 pa' ∧ NMR g (Ndf g sn (tkc g sn sp - 5) pa ki df (tke g sn sp)) nm' 8 ki' ∧ SM (fld S' o 0) (Nmn (tkc g sn sp - 5) mn) (Nkf g sn (tkc g sn sp - 5) mn kf (tke g sn sp)) ∧ bt sen' 5 = Nmd (tkc g sn sp - 5) (bt sen 5)) ∧ dg (fld S' o 0))) (fun S' t => pB dC dI (AL L sz) (va_pl L S') (cyT cy) t) (AL L sz)) 0 0 (AL L sz) := by
  refine Met.ofW (cc := cX12_lineRead) (maxL := 3) (ret := none) (by decide) rfl ?_
  intro p e s m args below meth c s₁ B hml hv
  obtain ⟨rfl, hsz, hP, hK, hD0, hN, hSTR⟩ := hv
  have hx := B.exec
  have hb := B.bytes
  have hr := B.returns
  have hT : ∀ wd ∈ TB, wd.before [.ref o].toArray s = true := fun wd h => atoms_spec (ws := wT yX12_lineRead cX12_lineRead 3 none) B.pre wd (List.mem_cons_of_mem _ h)
  have hown : s.vm.findClass RX12 = some m.cls := findClass_of_methodNamed B.named
  have hlocks := B.notSynchronized
  subst hsz
  have hW : PW dC dI L (AL L s.heap.size) s.heap S s.heap [] := ⟨hP, pl_self hD0, va_S.rf⟩
  have hA0 : ∀ q, q ∈ L → AL L s.heap.size q := fun _ h => Or.inl h
  have hA : ∀ q, s.heap.size ≤ q → AL L s.heap.size q := fun _ h => Or.inr h
  have hFr : Fr kap [12, 50, 53, 112] S S := Fr.rf
  have hl := lv_entry ([.ref o]) (n := 3) (Nat.le_of_ble_eq_true rfl)
  rw [lg_entry_eq]
  generalize (lg_sl ([.ref o]) ++ List.replicate (3 - (lg_sl ([.ref o])).length) Slot.unset).toArray = ls at hl ⊢
  have hl : lv_has ls 3 [(0, .ref o)] := hl
  obtain ⟨x_1, x_2, x_3, x_4, x_5, x_6, x_7, x_8, x_9, x_10, x_11, x_12, x_13, x_14, x_15, x_16, x_17, x_18, x_19, x_20, x_21, x_22, x_23, x_24, x_25, x_26, x_27, x_28, x_29, x_30, x_31, hS_o, hT_x_1, hT_x_2, hT_x_3, hT_x_4, hT_x_5, hb_x_6, hb_x_7, hb_x_8, hT_x_10, hb_q2, hb_x_11, hb_x_12, hT_x_17, hT_x_18, hb_x_19, hT_x_20, hT_x_21, hT_x_22, hT_x_23, hT_x_24, hT_x_25, hT_x_26, hT_x_27, hT_x_28, hT_x_29, hT_x_30, hb_x_31⟩ := hTy.k12 hT_o
  have hb_q2 : pr.2 ≤ 900 := hb_q2
  have hS_o : S o = .inr (12, [.ref x_1, .ref x_2, .ref x_3, .ref x_4, .ref x_5, .int (nI x_6), .int (nI x_7), .int (nI x_8), .int x_9, .ref x_10, .int (nI (pr.2)), .int (nI x_11), .int (nI x_12), .int x_13, .int x_14, .int x_15, .int x_16, .ref x_17, .ref x_18, .int (nI x_19), .ref x_20, .ref x_21, .ref x_22, .ref x_23, .ref x_24, .ref x_25, .ref x_26, .ref x_27, .ref x_28, .ref x_29, .ref x_30, .int (nI x_31)]) := hS_o
  obtain ⟨hMK_, h14_, h15_, h16_, h9_, h3_⟩ := hM
  obtain ⟨e12_, e11_, e13_, e5_, e6_, e0_⟩ := MKe hMK_ hS_o rfl rfl rfl rfl rfl rfl (by omega) (by omega) (by omega) (by omega)
  subst e12_ e11_ e13_ e5_ e6_ e0_
  have e14_ := h14_.symm.trans (inf_i hS_o rfl)
  subst e14_
  have e15_ := h15_.symm.trans (inf_i hS_o rfl)
  subst e15_
  have e16_ := h16_.symm.trans (inf_i hS_o rfl)
  subst e16_
  obtain ⟨f_32, hS_x_10⟩ := hTy.k55 hT_x_10
  have e9_ := h9_.symm.trans (fld_i hS_o rfl hS_x_10)
  subst e9_
  obtain ⟨f_33, hS_x_4⟩ := hTy.k53 hT_x_4
  have e3_ := h3_.symm.trans (lfd_i hS_o rfl hS_x_4)
  subst e3_
  obtain ⟨f_34, hS_rs, hi_f_34⟩ := hTy.k50 hT_x_1
  have hsm_ := hsm
  rw [fld_i hS_o rfl hS_rs] at hsm_
  have hdg_ : dg f_34 := by have q := hdg; rw [fld_i hS_o rfl hS_rs] at q; exact q
  have h0_ := hsm_.1
  have hm40_ := hsm_.2.1
  refine lv_aload_n hx hb dX12_lineRead_0 rfl (lv_at hl 0 rfl) ?_
  refine pl_calli (va_runV (As := []) (rest := []) ⟨hx, hb, hml, hown, hT⟩ (f_word l dC dI cy L kap pr ad S s.heap.size o hTy hT_o g nm sp sn wr wa sen ra pa ki rs ⟨MKi (sp := sp) (sn := sn) (pa := pa) (ki := ki) hS_o rfl rfl rfl rfl rfl rfl (by omega) (by omega) (by omega) (by omega), inf_i hS_o rfl, inf_i hS_o rfl, inf_i hS_o rfl, fld_i hS_o rfl hS_x_10, lfd_i hS_o rfl hS_x_4⟩ (by omega) hg) (cwV 0 hT (gV w1198 w1200 ws57 w14 w1201) rfl rfl rfl (by decide +kernel) ⟨(Nat.le_of_ble_eq_true rfl), (Nat.le_of_ble_eq_true rfl)⟩) ⟨pcS.blind, pl_recv hK hW hT_o.1 hS_o rfl, pcS.pre hW.1 hK hW.2.1 hN hSTR hW.2.2⟩ rfl rfl hl.1 rfl (lv_room (Nat.le_of_ble_eq_true rfl)) dX12_lineRead_1 ⟨(Nat.le_of_ble_eq_true rfl), (Nat.le_of_ble_eq_true rfl)⟩) hW hA0 hA (fun r_36 S_35 H locs hrel hW => ?_)
  obtain ⟨hTy, hF1, hx1⟩ := hrel
  have hFr := hFr.tr hF1 (by decide)
  have hS_x_10 := hF1.at hT_x_10 (by decide) hS_x_10
  have hS_x_4 := hF1.at hT_x_4 (by decide) hS_x_4
  have hS_rs := hF1.at hT_x_1 (by decide) hS_rs
  obtain ⟨sp37, hM37, -, hwb37⟩ := hx1
  obtain ⟨rfl, hWr⟩ := hwb37 hw0
  have hSg9 := SK_ge (g := g) (n := sn) (i := sp)
  have hSl9 := SK_le (g := g) (n := sn) (i := sp) (by omega)
  obtain ⟨x_38, x_39, x_40, x_41, x_42, x_43, x_44, x_45, x_46, x_47, x_48, x_49, x_50, x_51, x_52, x_53, x_54, x_55, x_56, x_57, x_58, x_59, x_60, x_61, x_62, x_63, x_64, x_65, x_66, x_67, x_68, hS_o, hT_x_38, hT_x_39, hT_x_40, hT_x_41, hT_x_42, hb_x_43, hb_x_44, hb_x_45, hT_x_47, hb_q2, hb_x_48, hb_x_49, hT_x_54, hT_x_55, hb_x_56, hT_x_57, hT_x_58, hT_x_59, hT_x_60, hT_x_61, hT_x_62, hT_x_63, hT_x_64, hT_x_65, hT_x_66, hT_x_67, hb_x_68⟩ := hTy.k12 hT_o
  have hb_q2 : pr.2 ≤ 900 := hb_q2
  have hS_o : S_35 o = .inr (12, [.ref x_38, .ref x_39, .ref x_40, .ref x_41, .ref x_42, .int (nI x_43), .int (nI x_44), .int (nI x_45), .int x_46, .ref x_47, .int (nI (pr.2)), .int (nI x_48), .int (nI x_49), .int x_50, .int x_51, .int x_52, .int x_53, .ref x_54, .ref x_55, .int (nI x_56), .ref x_57, .ref x_58, .ref x_59, .ref x_60, .ref x_61, .ref x_62, .ref x_63, .ref x_64, .ref x_65, .ref x_66, .ref x_67, .int (nI x_68)]) := hS_o
  obtain ⟨hMK_, h14_, h15_, h16_, h9_, h3_⟩ := hM37
  obtain ⟨e12_, e11_, e13_, e5_, e6_, e0_⟩ := MKe hMK_ hS_o rfl rfl rfl rfl rfl rfl (by omega) (by omega) (by omega) (by omega)
  subst e12_ e11_ e13_ e5_ e6_ e0_
  have e14_ := h14_.symm.trans (inf_i hS_o rfl)
  subst e14_
  have e15_ := h15_.symm.trans (inf_i hS_o rfl)
  subst e15_
  have e16_ := h16_.symm.trans (inf_i hS_o rfl)
  subst e16_
  obtain ⟨f_69, hS_x_47⟩ := hTy.k55 hT_x_47
  have e9_ := h9_.symm.trans (fld_i hS_o rfl hS_x_47)
  subst e9_
  obtain ⟨f_70, hS_x_41⟩ := hTy.k53 hT_x_41
  have e3_ := h3_.symm.trans (lfd_i hS_o rfl hS_x_41)
  subst e3_
  rcases WR_c (g := g) (n := sn) (p := sp) with hc_ | hc_
  · obtain ⟨q1_, hcl⟩ := hc_
    obtain rfl : r_36 = -1 := hWr.trans q1_
    refine lv_istore_n (lv' := [(1, .int (-1)), (0, .ref o)]) hx hb dX12_lineRead_4 rfl hl (by decide) rfl (fun ls hl => ?_)
    refine lv_aload_n hx hb dX12_lineRead_5 rfl (lv_at hl 1 rfl) ?_
    refine pl_get (ci := 12) (v := .int (nI (SK g sn sp))) (C := RX12) (T := TX12) (N := 32) hx hb hT iX12 hown hK hW hT_o.1 hS_o rfl 12 (by decide) w1094 rfl dX12_lineRead_6 ?_
    refine lv_istore_n (lv' := [(2, .int (nI (SK g sn sp))), (1, .int (-1)), (0, .ref o)]) hx hb dX12_lineRead_9 rfl hl (by decide) rfl (fun ls hl => ?_)
    refine lv_iload_n hx hb dX12_lineRead_10 rfl (lv_at hl 1 rfl) ?_
    refine lv_iconst (v := (-1)) hx hb dX12_lineRead_11 (by decide) ?_
    refine lv_icmp_eq (tgt := 32) hx hb dX12_lineRead_12 (by decide) (fun _ => ?_) (fun h => absurd rfl h)
    have hEL := EL_0 (df := df) (np := pa) (nk := ki) (mn := mn) (kf := kf) (md := bt sen 5) hcl
    refine lv_aload_n hx hb dX12_lineRead_32 rfl (lv_at hl 2 rfl) ?_
    refine lv_iconst (v := 1) hx hb dX12_lineRead_33 (by decide) ?_
    refine lv_iload_n hx hb dX12_lineRead_34 rfl (lv_at hl 0 rfl) ?_
    refine pl_callv (va_runV (As := [.int 1, .int (nI (SK g sn sp))]) (rest := []) ⟨hx, hb, hml, hown, hT⟩ (f_fails l dC dI cy L kap pr S_35 H.size o 1 (nI (SK g sn sp)) hTy hT_o g nm (SK g sn sp) sn wr wa sen ra pa ki rs ⟨MKi (sp := (SK g sn sp)) (sn := sn) (pa := pa) (ki := ki) hS_o rfl rfl rfl rfl rfl rfl (by omega) (by omega) (by omega) (by omega), inf_i hS_o rfl, inf_i hS_o rfl, inf_i hS_o rfl, fld_i hS_o rfl hS_x_47, lfd_i hS_o rfl hS_x_41⟩ (by omega) hg) (cwV 2 hT (gV w1214 w1216 ws59 w14 w1217) rfl rfl rfl (by decide +kernel) ⟨(Nat.le_of_ble_eq_true rfl), (Nat.le_of_ble_eq_true rfl)⟩) ⟨pcN.blind, pl_recv hK hW hT_o.1 hS_o rfl, pcN.pre hW.1 hK hW.2.1 hN (fun q h => absurd h List.not_mem_nil)⟩ rfl rfl hl.1 rfl (lv_room (Nat.le_of_ble_eq_true rfl)) dX12_lineRead_35 ⟨(Nat.le_of_ble_eq_true rfl), (Nat.le_of_ble_eq_true rfl)⟩) hW hA0 hA (fun S_71 H locs hrel hW => ?_)
    obtain ⟨hTy, hF1, hx1⟩ := hrel
    have hFr := hFr.tr hF1 (by decide)
    have hS_x_10 := hF1.at hT_x_10 (by decide) hS_x_10
    have hS_x_4 := hF1.at hT_x_4 (by decide) hS_x_4
    have hS_rs := hF1.at hT_x_1 (by decide) hS_rs
    have hS_x_47 := hF1.at hT_x_47 (by decide) hS_x_47
    have hS_x_41 := hF1.at hT_x_41 (by decide) hS_x_41
    obtain ⟨wr72, wa72, hM72, hfa72, hfb72⟩ := hx1
    obtain ⟨x_73, x_74, x_75, x_76, x_77, x_78, x_79, x_80, x_81, x_82, x_83, x_84, x_85, x_86, x_87, x_88, x_89, x_90, x_91, x_92, x_93, x_94, x_95, x_96, x_97, x_98, x_99, x_100, x_101, x_102, x_103, hS_o, hT_x_73, hT_x_74, hT_x_75, hT_x_76, hT_x_77, hb_x_78, hb_x_79, hb_x_80, hT_x_82, hb_q2, hb_x_83, hb_x_84, hT_x_89, hT_x_90, hb_x_91, hT_x_92, hT_x_93, hT_x_94, hT_x_95, hT_x_96, hT_x_97, hT_x_98, hT_x_99, hT_x_100, hT_x_101, hT_x_102, hb_x_103⟩ := hTy.k12 hT_o
    have hb_q2 : pr.2 ≤ 900 := hb_q2
    have hS_o : S_71 o = .inr (12, [.ref x_73, .ref x_74, .ref x_75, .ref x_76, .ref x_77, .int (nI x_78), .int (nI x_79), .int (nI x_80), .int x_81, .ref x_82, .int (nI (pr.2)), .int (nI x_83), .int (nI x_84), .int x_85, .int x_86, .int x_87, .int x_88, .ref x_89, .ref x_90, .int (nI x_91), .ref x_92, .ref x_93, .ref x_94, .ref x_95, .ref x_96, .ref x_97, .ref x_98, .ref x_99, .ref x_100, .ref x_101, .ref x_102, .int (nI x_103)]) := hS_o
    obtain ⟨hMK_, h14_, h15_, h16_, h9_, h3_⟩ := hM72
    obtain ⟨e12_, e11_, e13_, e5_, e6_, e0_⟩ := MKe hMK_ hS_o rfl rfl rfl rfl rfl rfl (by omega) (by omega) (by omega) (by omega)
    subst e12_ e11_ e13_ e5_ e6_ e0_
    have e14_ := h14_.symm.trans (inf_i hS_o rfl)
    subst e14_
    have e15_ := h15_.symm.trans (inf_i hS_o rfl)
    subst e15_
    have e16_ := h16_.symm.trans (inf_i hS_o rfl)
    subst e16_
    obtain ⟨f_104, hS_x_82⟩ := hTy.k55 hT_x_82
    have e9_ := h9_.symm.trans (fld_i hS_o rfl hS_x_82)
    subst e9_
    obtain ⟨f_105, hS_x_76⟩ := hTy.k53 hT_x_76
    have e3_ := h3_.symm.trans (lfd_i hS_o rfl hS_x_76)
    subst e3_
    refine lv_goto (tgt := 55) hx hb dX12_lineRead_38 (by decide) ?_
    refine lv_aload_n hx hb dX12_lineRead_55 rfl (lv_at hl 2 rfl) ?_
    refine pl_get (ci := 12) (v := .int wr72) (C := RX12) (T := TX12) (N := 32) hx hb hT iX12 hown hK hW hT_o.1 hS_o rfl 13 (by decide) w1095 rfl dX12_lineRead_56 ?_
    refine lv_if_eq (tgt := 63) hx hb dX12_lineRead_59 (by decide) (fun h => absurd h (by rw [(hfb72 hw0).1]; decide)) (fun _ => ?_)
    exact W.vret hx hb hr (fun t ht h9 => ⟨⟨S_71, rfl, ⟨hTy, hFr, ⟨SK g sn sp, _, _, _, _, _, pa, ki, ⟨MKi (sp := (SK g sn sp)) (sn := sn) (pa := pa) (ki := ki) hS_o rfl rfl rfl rfl rfl rfl (by omega) (by omega) (by omega) (by omega), inf_i hS_o rfl, inf_i hS_o rfl, inf_i hS_o rfl, fld_i hS_o rfl hS_x_82, lfd_i hS_o rfl hS_x_76⟩, by rw [hEL]; exact ERR_e hw0 (show (1 : Nat) ≠ 0 from by decide) (hfb72 hw0), fun z => by rw [hEL] at z; exact absurd (show (1 : Nat) = 0 from z) (by decide), (by rw [fld_i hS_o rfl hS_rs]; exact hdg_)⟩⟩, by rw [ht]; exact hW.1, va_K.moved h9.alike hK, hW.2.1⟩, hW.2.2.F ht⟩) hW.2.2.2.2 dX12_lineRead_62
  · obtain ⟨wz, hb_wz, q1_, hcl, hte9⟩ := hc_
    obtain rfl : r_36 = nI wz := hWr.trans q1_
    refine lv_istore_n (lv' := [(1, .int (nI wz)), (0, .ref o)]) hx hb dX12_lineRead_4 rfl hl (by decide) rfl (fun ls hl => ?_)
    refine lv_aload_n hx hb dX12_lineRead_5 rfl (lv_at hl 1 rfl) ?_
    refine pl_get (ci := 12) (v := .int (nI (SK g sn sp))) (C := RX12) (T := TX12) (N := 32) hx hb hT iX12 hown hK hW hT_o.1 hS_o rfl 12 (by decide) w1094 rfl dX12_lineRead_6 ?_
    refine lv_istore_n (lv' := [(2, .int (nI (SK g sn sp))), (1, .int (nI wz)), (0, .ref o)]) hx hb dX12_lineRead_9 rfl hl (by decide) rfl (fun ls hl => ?_)
    refine lv_iload_n hx hb dX12_lineRead_10 rfl (lv_at hl 1 rfl) ?_
    refine lv_iconst (v := (-1)) hx hb dX12_lineRead_11 (by decide) ?_
    refine lv_icmp_eq (tgt := 32) hx hb dX12_lineRead_12 (by decide) (fun h => absurd h (nI_m1 hb_wz)) (fun _ => ?_)
    refine lv_iload_n hx hb dX12_lineRead_15 rfl (lv_at hl 1 rfl) ?_
    refine lv_iconst (v := 5) hx hb dX12_lineRead_16 (by decide) ?_
    refine lv_icmp_ne (tgt := 41) hx hb dX12_lineRead_17 (by decide) (fun c_17 => ?_) (fun c_17 => ?_)
    · have c_17 : ¬ (wz = 5) := fun hh9 => c_17 ((nI_eq (a := wz) (b := 5) (by omega) (by omega)).mpr hh9)
      have h5m : wz = 5 → bt sen 5 = false := fun z => absurd z c_17
      refine lv_aload_n hx hb dX12_lineRead_41 rfl (lv_at hl 2 rfl) ?_
      refine lv_iload_n hx hb dX12_lineRead_42 rfl (lv_at hl 1 rfl) ?_
      refine vp_callSi (va_Run.run (va_runV (As := [.int (nI wz)]) (rest := []) ⟨hx, hb, hml, hown, hT⟩ (f_isFull l dC dI cy L kap pr S_35 H.size o (nI wz) hTy hT_o g nm (SK g sn sp) sn wr wa sen ra pa ki rs ⟨MKi (sp := (SK g sn sp)) (sn := sn) (pa := pa) (ki := ki) hS_o rfl rfl rfl rfl rfl rfl (by omega) (by omega) (by omega) (by omega), inf_i hS_o rfl, inf_i hS_o rfl, inf_i hS_o rfl, fld_i hS_o rfl hS_x_47, lfd_i hS_o rfl hS_x_41⟩ (by omega) hg mn (mnyi hS_o rfl hS_rs h0_) hm40_) (cwV 1 hT (gV w1218 w1220 ws60 w14 w1221) rfl rfl rfl (by decide +kernel) ⟨(Nat.le_of_ble_eq_true rfl), (Nat.le_of_ble_eq_true rfl)⟩) ⟨pcN.blind, pl_recv hK hW hT_o.1 hS_o rfl, pcN.pre hW.1 hK hW.2.1 hN (fun q h => absurd h List.not_mem_nil)⟩ rfl rfl hl.1 rfl (lv_room (Nat.le_of_ble_eq_true rfl)) dX12_lineRead_43 ⟨(Nat.le_of_ble_eq_true rfl), (Nat.le_of_ble_eq_true rfl)⟩)) (fun r_106 hr_106 => ?_)
      rcases hr_106 with hc_ | hc_
      · obtain ⟨rfl, hful⟩ := hc_
        refine lv_if_eq (tgt := 55) hx hb dX12_lineRead_46 (by decide) (fun h => absurd h (by decide)) (fun _ => ?_)
        have hEL := EL_4 (df := df) (kf := kf) hcl h5m ((FUL_i hb_wz).mp hful)
        refine lv_aload_n hx hb dX12_lineRead_49 rfl (lv_at hl 2 rfl) ?_
        refine lv_iconst (v := 4) hx hb dX12_lineRead_50 (by decide) ?_
        refine lv_iload_n hx hb dX12_lineRead_51 rfl (lv_at hl 0 rfl) ?_
        refine pl_callv (va_runV (As := [.int 4, .int (nI (SK g sn sp))]) (rest := []) ⟨hx, hb, hml, hown, hT⟩ (f_fails l dC dI cy L kap pr S_35 H.size o 4 (nI (SK g sn sp)) hTy hT_o g nm (SK g sn sp) sn wr wa sen ra pa ki rs ⟨MKi (sp := (SK g sn sp)) (sn := sn) (pa := pa) (ki := ki) hS_o rfl rfl rfl rfl rfl rfl (by omega) (by omega) (by omega) (by omega), inf_i hS_o rfl, inf_i hS_o rfl, inf_i hS_o rfl, fld_i hS_o rfl hS_x_47, lfd_i hS_o rfl hS_x_41⟩ (by omega) hg) (cwV 2 hT (gV w1214 w1216 ws59 w14 w1217) rfl rfl rfl (by decide +kernel) ⟨(Nat.le_of_ble_eq_true rfl), (Nat.le_of_ble_eq_true rfl)⟩) ⟨pcN.blind, pl_recv hK hW hT_o.1 hS_o rfl, pcN.pre hW.1 hK hW.2.1 hN (fun q h => absurd h List.not_mem_nil)⟩ rfl rfl hl.1 rfl (lv_room (Nat.le_of_ble_eq_true rfl)) dX12_lineRead_52 ⟨(Nat.le_of_ble_eq_true rfl), (Nat.le_of_ble_eq_true rfl)⟩) hW hA0 hA (fun S_107 H locs hrel hW => ?_)
        obtain ⟨hTy, hF1, hx1⟩ := hrel
        have hFr := hFr.tr hF1 (by decide)
        have hS_x_10 := hF1.at hT_x_10 (by decide) hS_x_10
        have hS_x_4 := hF1.at hT_x_4 (by decide) hS_x_4
        have hS_rs := hF1.at hT_x_1 (by decide) hS_rs
        have hS_x_47 := hF1.at hT_x_47 (by decide) hS_x_47
        have hS_x_41 := hF1.at hT_x_41 (by decide) hS_x_41
        obtain ⟨wr108, wa108, hM108, hfa108, hfb108⟩ := hx1
        obtain ⟨x_109, x_110, x_111, x_112, x_113, x_114, x_115, x_116, x_117, x_118, x_119, x_120, x_121, x_122, x_123, x_124, x_125, x_126, x_127, x_128, x_129, x_130, x_131, x_132, x_133, x_134, x_135, x_136, x_137, x_138, x_139, hS_o, hT_x_109, hT_x_110, hT_x_111, hT_x_112, hT_x_113, hb_x_114, hb_x_115, hb_x_116, hT_x_118, hb_q2, hb_x_119, hb_x_120, hT_x_125, hT_x_126, hb_x_127, hT_x_128, hT_x_129, hT_x_130, hT_x_131, hT_x_132, hT_x_133, hT_x_134, hT_x_135, hT_x_136, hT_x_137, hT_x_138, hb_x_139⟩ := hTy.k12 hT_o
        have hb_q2 : pr.2 ≤ 900 := hb_q2
        have hS_o : S_107 o = .inr (12, [.ref x_109, .ref x_110, .ref x_111, .ref x_112, .ref x_113, .int (nI x_114), .int (nI x_115), .int (nI x_116), .int x_117, .ref x_118, .int (nI (pr.2)), .int (nI x_119), .int (nI x_120), .int x_121, .int x_122, .int x_123, .int x_124, .ref x_125, .ref x_126, .int (nI x_127), .ref x_128, .ref x_129, .ref x_130, .ref x_131, .ref x_132, .ref x_133, .ref x_134, .ref x_135, .ref x_136, .ref x_137, .ref x_138, .int (nI x_139)]) := hS_o
        obtain ⟨hMK_, h14_, h15_, h16_, h9_, h3_⟩ := hM108
        obtain ⟨e12_, e11_, e13_, e5_, e6_, e0_⟩ := MKe hMK_ hS_o rfl rfl rfl rfl rfl rfl (by omega) (by omega) (by omega) (by omega)
        subst e12_ e11_ e13_ e5_ e6_ e0_
        have e14_ := h14_.symm.trans (inf_i hS_o rfl)
        subst e14_
        have e15_ := h15_.symm.trans (inf_i hS_o rfl)
        subst e15_
        have e16_ := h16_.symm.trans (inf_i hS_o rfl)
        subst e16_
        obtain ⟨f_140, hS_x_118⟩ := hTy.k55 hT_x_118
        have e9_ := h9_.symm.trans (fld_i hS_o rfl hS_x_118)
        subst e9_
        obtain ⟨f_141, hS_x_112⟩ := hTy.k53 hT_x_112
        have e3_ := h3_.symm.trans (lfd_i hS_o rfl hS_x_112)
        subst e3_
        refine lv_aload_n hx hb dX12_lineRead_55 rfl (lv_at hl 2 rfl) ?_
        refine pl_get (ci := 12) (v := .int wr108) (C := RX12) (T := TX12) (N := 32) hx hb hT iX12 hown hK hW hT_o.1 hS_o rfl 13 (by decide) w1095 rfl dX12_lineRead_56 ?_
        refine lv_if_eq (tgt := 63) hx hb dX12_lineRead_59 (by decide) (fun h => absurd h (by rw [(hfb108 hw0).1]; decide)) (fun _ => ?_)
        exact W.vret hx hb hr (fun t ht h9 => ⟨⟨S_107, rfl, ⟨hTy, hFr, ⟨SK g sn sp, _, _, _, _, _, pa, ki, ⟨MKi (sp := (SK g sn sp)) (sn := sn) (pa := pa) (ki := ki) hS_o rfl rfl rfl rfl rfl rfl (by omega) (by omega) (by omega) (by omega), inf_i hS_o rfl, inf_i hS_o rfl, inf_i hS_o rfl, fld_i hS_o rfl hS_x_118, lfd_i hS_o rfl hS_x_112⟩, by rw [hEL]; exact ERR_e hw0 (show (4 : Nat) ≠ 0 from by decide) (hfb108 hw0), fun z => by rw [hEL] at z; exact absurd (show (4 : Nat) = 0 from z) (by decide), (by rw [fld_i hS_o rfl hS_rs]; exact hdg_)⟩⟩, by rw [ht]; exact hW.1, va_K.moved h9.alike hK, hW.2.1⟩, hW.2.2.F ht⟩) hW.2.2.2.2 dX12_lineRead_62
      · obtain ⟨rfl, hful⟩ := hc_
        refine lv_if_eq (tgt := 55) hx hb dX12_lineRead_46 (by decide) (fun _ => ?_) (fun h => absurd (by decide) h)
        refine lv_aload_n hx hb dX12_lineRead_55 rfl (lv_at hl 2 rfl) ?_
        refine pl_get (ci := 12) (v := .int wr) (C := RX12) (T := TX12) (N := 32) hx hb hT iX12 hown hK hW hT_o.1 hS_o rfl 13 (by decide) w1095 rfl dX12_lineRead_56 ?_
        refine lv_if_eq (tgt := 63) hx hb dX12_lineRead_59 (by decide) (fun _ => ?_) (fun h => absurd hw0 h)
        have hnf : ¬ FUL wz pa ki mn := fun z => hful ((FUL_i hb_wz).mpr z)
        have hEL := EL_b (df := df) (kf := kf) hcl h5m hnf
        have hcw : (tkc g sn sp - 5) = wz := by omega
        have hf0 : wz = 0 → pa < 8 := fun z => by by_cases q : pa = 8; exact absurd (Or.inl ⟨z, q⟩) hnf; omega
        have hf1 : wz = 1 → ki < 4 := fun z => by by_cases q : ki = 4; exact absurd (Or.inr (Or.inl ⟨z, q⟩)) hnf; omega
        have hf2 : wz = 2 → mn < 40 := fun z => by by_cases q : mn = 40; exact absurd (Or.inr (Or.inr ⟨z, q⟩)) hnf; omega
        refine lv_aload_n hx hb dX12_lineRead_63 rfl (lv_at hl 2 rfl) ?_
        refine lv_dup hx hb dX12_lineRead_64 rfl ?_
        refine pl_get (ci := 12) (v := .int sen) (C := RX12) (T := TX12) (N := 32) hx hb hT iX12 hown hK hW hT_o.1 hS_o rfl 15 (by decide) w1097 rfl dX12_lineRead_65 ?_
        refine lv_iconst (v := 1) hx hb dX12_lineRead_68 (by decide) ?_
        refine lv_iload_n hx hb dX12_lineRead_69 rfl (lv_at hl 1 rfl) ?_
        refine lv_ishl hx hb dX12_lineRead_70 ?_
        refine lv_topi (fun z_142 ez_142 => ?_)
        refine lv_ior hx hb dX12_lineRead_71 ?_
        refine lv_topi (fun z_143 ez_143 => ?_)
        have hmd := md_s hb_wz ez_142 ez_143
        refine pl_put (ci := 12) (v := .int z_143) (ty := .int) (C := RX12) (T := TX12) (N := 32) (fs' := [.ref rs, .ref x_39, .ref x_40, .ref x_41, .ref x_42, .int (nI pa), .int (nI ki), .int (nI x_45), .int x_46, .ref x_47, .int (nI (pr.2)), .int (nI sn), .int (nI (SK g sn sp)), .int wr, .int wa, .int z_143, .int ra, .ref x_54, .ref x_55, .int (nI x_56), .ref x_57, .ref x_58, .ref x_59, .ref x_60, .ref x_61, .ref x_62, .ref x_63, .ref x_64, .ref x_65, .ref x_66, .ref x_67, .int (nI x_68)]) hx hb hT iX12 tyX12 tyX12_ok nmX12 hown hK hW hT_o.1 hS_o rfl 15 (by decide) w1097 rfl (by decide +kernel) rfl rfl (Nat.le_of_ble_eq_true rfl) rfl dX12_lineRead_72 (fun H locs S_144 e1 hW => ?_)
        have hTy := hTy.u12 e1 hT_o ⟨rs, x_39, x_40, x_41, x_42, pa, ki, x_45, x_46, x_47, sn, SK g sn sp, wr, wa, z_143, ra, x_54, x_55, x_56, x_57, x_58, x_59, x_60, x_61, x_62, x_63, x_64, x_65, x_66, x_67, x_68, rfl, hT_x_1, hT_x_39, hT_x_40, hT_x_41, hT_x_42, (by omega), (by omega), (by omega), hT_x_47, (by show pr.2 ≤ 900; omega), (by omega), (by omega), hT_x_54, hT_x_55, (by omega), hT_x_57, hT_x_58, hT_x_59, hT_x_60, hT_x_61, hT_x_62, hT_x_63, hT_x_64, hT_x_65, hT_x_66, hT_x_67, (by omega)⟩
        have hS_x_10 := un e1 hT_x_10 hT_o (by decide) hS_x_10
        have hS_x_4 := un e1 hT_x_4 hT_o (by decide) hS_x_4
        have hS_rs := un e1 hT_x_1 hT_o (by decide) hS_rs
        have hS_x_47 := un e1 hT_x_47 hT_o (by decide) hS_x_47
        have hS_x_41 := un e1 hT_x_41 hT_o (by decide) hS_x_41
        have hws := (show wrs (.inr (12, [.ref rs, .ref x_39, .ref x_40, .ref x_41, .ref x_42, .int (nI pa), .int (nI ki), .int (nI x_45), .int x_46, .ref x_47, .int (nI (pr.2)), .int (nI sn), .int (nI (SK g sn sp)), .int wr, .int wa, .int z_143, .int ra, .ref x_54, .ref x_55, .int (nI x_56), .ref x_57, .ref x_58, .ref x_59, .ref x_60, .ref x_61, .ref x_62, .ref x_63, .ref x_64, .ref x_65, .ref x_66, .ref x_67, .int (nI x_68)])) = wrs (S_35 o) from by rw [hS_o]; rfl)
        have hFr := ufs hFr e1 hT_o (by decide) hws
        have hS_o := us e1
        refine lv_aload_n hx hb dX12_lineRead_75 rfl (lv_at hl 2 rfl) ?_
        refine lv_dup hx hb dX12_lineRead_76 rfl ?_
        refine pl_get (ci := 12) (v := .int (nI (SK g sn sp))) (C := RX12) (T := TX12) (N := 32) hx hb hT iX12 hown hK hW hT_o.1 hS_o rfl 12 (by decide) w1094 rfl dX12_lineRead_77 ?_
        refine lv_aload_n hx hb dX12_lineRead_80 rfl (lv_at hl 2 rfl) ?_
        refine vp_callSi (va_Run.run (va_runV (As := []) (rest := [.int (nI (SK g sn sp)), .ref o]) ⟨hx, hb, hml, hown, hT⟩ (f_letters l dC dI cy L kap pr S_144 H.size o hTy hT_o g nm (SK g sn sp) sn wr wa z_143 ra pa ki rs ⟨MKi (sp := (SK g sn sp)) (sn := sn) (pa := pa) (ki := ki) hS_o rfl rfl rfl rfl rfl rfl (by omega) (by omega) (by omega) (by omega), inf_i hS_o rfl, inf_i hS_o rfl, inf_i hS_o rfl, fld_i hS_o rfl hS_x_47, lfd_i hS_o rfl hS_x_41⟩ (by omega) hg) (cwV 0 hT (gV w1207 w1209 ws58 w14 w1210) rfl rfl rfl (by decide +kernel) ⟨(Nat.le_of_ble_eq_true rfl), (Nat.le_of_ble_eq_true rfl)⟩) ⟨pcN.blind, pl_recv hK hW hT_o.1 hS_o rfl, pcN.pre hW.1 hK hW.2.1 hN (fun q h => absurd h List.not_mem_nil)⟩ rfl rfl hl.1 rfl (lv_room (Nat.le_of_ble_eq_true rfl)) dX12_lineRead_81 ⟨(Nat.le_of_ble_eq_true rfl), (Nat.le_of_ble_eq_true rfl)⟩)) (fun r_145 hr_145 => ?_)
        have hlb_ := LT_le (g := g) (n := sn) (i := SK g sn sp) (by omega)
        have hlg_ := LT_ge (g := g) (n := sn) (i := SK g sn sp)
        obtain rfl : r_145 = nI (LT g sn (SK g sn sp) - (SK g sn sp)) := hr_145
        refine lv_iadd hx hb dX12_lineRead_84 ?_
        refine lv_topi (fun z_146 ez_146 => ?_)
        obtain rfl : z_146 = nI ((SK g sn sp) + (LT g sn (SK g sn sp) - (SK g sn sp))) := ez_146.trans (nI_add (SK g sn sp) (LT g sn (SK g sn sp) - (SK g sn sp)))
        refine pl_put (ci := 12) (v := .int (nI ((SK g sn sp) + (LT g sn (SK g sn sp) - (SK g sn sp))))) (ty := .int) (C := RX12) (T := TX12) (N := 32) (fs' := [.ref rs, .ref x_39, .ref x_40, .ref x_41, .ref x_42, .int (nI pa), .int (nI ki), .int (nI x_45), .int x_46, .ref x_47, .int (nI (pr.2)), .int (nI sn), .int (nI ((SK g sn sp) + (LT g sn (SK g sn sp) - (SK g sn sp)))), .int wr, .int wa, .int z_143, .int ra, .ref x_54, .ref x_55, .int (nI x_56), .ref x_57, .ref x_58, .ref x_59, .ref x_60, .ref x_61, .ref x_62, .ref x_63, .ref x_64, .ref x_65, .ref x_66, .ref x_67, .int (nI x_68)]) hx hb hT iX12 tyX12 tyX12_ok nmX12 hown hK hW hT_o.1 hS_o rfl 12 (by decide) w1094 rfl (by decide +kernel) rfl rfl (Nat.le_of_ble_eq_true rfl) rfl dX12_lineRead_85 (fun H locs S_147 e1 hW => ?_)
        have hTy := hTy.u12 e1 hT_o ⟨rs, x_39, x_40, x_41, x_42, pa, ki, x_45, x_46, x_47, sn, (SK g sn sp) + (LT g sn (SK g sn sp) - (SK g sn sp)), wr, wa, z_143, ra, x_54, x_55, x_56, x_57, x_58, x_59, x_60, x_61, x_62, x_63, x_64, x_65, x_66, x_67, x_68, rfl, hT_x_1, hT_x_39, hT_x_40, hT_x_41, hT_x_42, (by omega), (by omega), (by omega), hT_x_47, (by show pr.2 ≤ 900; omega), (by omega), (by omega), hT_x_54, hT_x_55, (by omega), hT_x_57, hT_x_58, hT_x_59, hT_x_60, hT_x_61, hT_x_62, hT_x_63, hT_x_64, hT_x_65, hT_x_66, hT_x_67, (by omega)⟩
        have hS_x_10 := un e1 hT_x_10 hT_o (by decide) hS_x_10
        have hS_x_4 := un e1 hT_x_4 hT_o (by decide) hS_x_4
        have hS_rs := un e1 hT_x_1 hT_o (by decide) hS_rs
        have hS_x_47 := un e1 hT_x_47 hT_o (by decide) hS_x_47
        have hS_x_41 := un e1 hT_x_41 hT_o (by decide) hS_x_41
        have hws := (show wrs (.inr (12, [.ref rs, .ref x_39, .ref x_40, .ref x_41, .ref x_42, .int (nI pa), .int (nI ki), .int (nI x_45), .int x_46, .ref x_47, .int (nI (pr.2)), .int (nI sn), .int (nI ((SK g sn sp) + (LT g sn (SK g sn sp) - (SK g sn sp)))), .int wr, .int wa, .int z_143, .int ra, .ref x_54, .ref x_55, .int (nI x_56), .ref x_57, .ref x_58, .ref x_59, .ref x_60, .ref x_61, .ref x_62, .ref x_63, .ref x_64, .ref x_65, .ref x_66, .ref x_67, .int (nI x_68)])) = wrs (S_144 o) from by rw [hS_o]; rfl)
        have hFr := ufs hFr e1 hT_o (by decide) hws
        have hS_o := us e1
        have hte_ : (SK g sn sp) + (LT g sn (SK g sn sp) - (SK g sn sp)) = tke g sn sp := by omega
        have htl := tke_i (g := g) (n := sn) (p := sp) (by omega) (by omega)
        rw [hte_] at hS_o
        refine lv_aload_n hx hb dX12_lineRead_88 rfl (lv_at hl 2 rfl) ?_
        refine lv_iload_n hx hb dX12_lineRead_89 rfl (lv_at hl 1 rfl) ?_
        refine pl_callv (va_runV (As := [.int (nI wz)]) (rest := []) ⟨hx, hb, hml, hown, hT⟩ (f_behind l dC dI cy L kap pr ad S_147 H.size o wz hTy hT_o (by omega) g nm (tke g sn sp) sn wr wa z_143 ra pa ki rs ⟨MKi (sp := (tke g sn sp)) (sn := sn) (pa := pa) (ki := ki) hS_o rfl rfl rfl rfl rfl rfl (by omega) (by omega) (by omega) (by omega), inf_i hS_o rfl, inf_i hS_o rfl, inf_i hS_o rfl, fld_i hS_o rfl hS_x_47, lfd_i hS_o rfl hS_x_41⟩ (by omega) hg df hN0 hN8 mn kf (by rw [fld_i hS_o rfl hS_rs]; exact hsm_) (by rw [fld_i hS_o rfl hS_rs]; exact hdg_) hw0 hf0 hf1 hf2) (cwV 1 hT (gV w1222 w1224 ws61 w14 w1225) rfl rfl rfl (by decide +kernel) ⟨(Nat.le_of_ble_eq_true rfl), (Nat.le_of_ble_eq_true rfl)⟩) ⟨pcS.blind, pl_recv hK hW hT_o.1 hS_o rfl, pcS.pre hW.1 hK hW.2.1 hN hSTR hW.2.2⟩ rfl rfl hl.1 rfl (lv_room (Nat.le_of_ble_eq_true rfl)) dX12_lineRead_90 ⟨(Nat.le_of_ble_eq_true rfl), (Nat.le_of_ble_eq_true rfl)⟩) hW hA0 hA (fun S_148 H locs hrel hW => ?_)
        obtain ⟨hTy, hF1, hx1⟩ := hrel
        have hFr := hFr.tr hF1 (by decide)
        have hS_x_10 := hF1.at hT_x_10 (by decide) hS_x_10
        have hS_x_47 := hF1.at hT_x_47 (by decide) hS_x_47
        obtain ⟨sp149, wr149, wa149, ra149, nm149, pa149, ki149, hM149, hsb149, hER149, hOK149, hdg9_⟩ := hx1
        obtain ⟨x_150, x_151, x_152, x_153, x_154, x_155, x_156, x_157, x_158, x_159, x_160, x_161, x_162, x_163, x_164, x_165, x_166, x_167, x_168, x_169, x_170, x_171, x_172, x_173, x_174, x_175, x_176, x_177, x_178, x_179, x_180, hS_o, hT_x_150, hT_x_151, hT_x_152, hT_x_153, hT_x_154, hb_x_155, hb_x_156, hb_x_157, hT_x_159, hb_q2, hb_x_160, hb_x_161, hT_x_166, hT_x_167, hb_x_168, hT_x_169, hT_x_170, hT_x_171, hT_x_172, hT_x_173, hT_x_174, hT_x_175, hT_x_176, hT_x_177, hT_x_178, hT_x_179, hb_x_180⟩ := hTy.k12 hT_o
        have hb_q2 : pr.2 ≤ 900 := hb_q2
        have hS_o : S_148 o = .inr (12, [.ref x_150, .ref x_151, .ref x_152, .ref x_153, .ref x_154, .int (nI x_155), .int (nI x_156), .int (nI x_157), .int x_158, .ref x_159, .int (nI (pr.2)), .int (nI x_160), .int (nI x_161), .int x_162, .int x_163, .int x_164, .int x_165, .ref x_166, .ref x_167, .int (nI x_168), .ref x_169, .ref x_170, .ref x_171, .ref x_172, .ref x_173, .ref x_174, .ref x_175, .ref x_176, .ref x_177, .ref x_178, .ref x_179, .int (nI x_180)]) := hS_o
        obtain ⟨hMK_, h14_, h15_, h16_, h9_, h3_⟩ := hM149
        obtain ⟨e12_, e11_, e13_, e5_, e6_, e0_⟩ := MKe hMK_ hS_o rfl rfl rfl rfl rfl rfl (by omega) (by omega) (by omega) (by omega)
        subst e12_ e11_ e13_ e5_ e6_ e0_
        have e14_ := h14_.symm.trans (inf_i hS_o rfl)
        subst e14_
        have e15_ := h15_.symm.trans (inf_i hS_o rfl)
        subst e15_
        have e16_ := h16_.symm.trans (inf_i hS_o rfl)
        subst e16_
        obtain ⟨f_181, hS_x_159⟩ := hTy.k55 hT_x_159
        have e9_ := h9_.symm.trans (fld_i hS_o rfl hS_x_159)
        subst e9_
        obtain ⟨f_182, hS_x_153⟩ := hTy.k53 hT_x_153
        have e3_ := h3_.symm.trans (lfd_i hS_o rfl hS_x_153)
        subst e3_
        obtain ⟨f_183, hS_rs, hi_f_183⟩ := hTy.k50 hT_x_1
        have hdg_ : dg f_183 := by have q := hdg9_; rw [fld_i hS_o rfl hS_rs] at q; exact q
        refine lv_aload_n hx hb dX12_lineRead_93 rfl (lv_at hl 2 rfl) ?_
        refine pl_get (ci := 12) (v := .int wr149) (C := RX12) (T := TX12) (N := 32) hx hb hT iX12 hown hK hW hT_o.1 hS_o rfl 13 (by decide) w1095 rfl dX12_lineRead_94 ?_
        refine lv_if_ne (tgt := 118) hx hb dX12_lineRead_97 (by decide) (fun c_97 => ?_) (fun c_97 => ?_)
        · refine lv_aload_n hx hb dX12_lineRead_118 rfl (lv_at hl 2 rfl) ?_
          refine lv_dup hx hb dX12_lineRead_119 rfl ?_
          refine pl_get (ci := 12) (v := .int (nI sp149)) (C := RX12) (T := TX12) (N := 32) hx hb hT iX12 hown hK hW hT_o.1 hS_o rfl 12 (by decide) w1094 rfl dX12_lineRead_120 ?_
          refine lv_iconst (v := 1) hx hb dX12_lineRead_123 (by decide) ?_
          refine lv_iadd hx hb dX12_lineRead_124 ?_
          refine lv_topi (fun z_184 ez_184 => ?_)
          obtain rfl : z_184 = nI (sp149 + 1) := ez_184.trans (nI_add (sp149) (1))
          refine pl_put (ci := 12) (v := .int (nI (sp149 + 1))) (ty := .int) (C := RX12) (T := TX12) (N := 32) (fs' := [.ref rs, .ref x_151, .ref x_152, .ref x_153, .ref x_154, .int (nI pa149), .int (nI ki149), .int (nI x_157), .int x_158, .ref x_159, .int (nI (pr.2)), .int (nI sn), .int (nI (sp149 + 1)), .int wr149, .int wa149, .int z_143, .int ra149, .ref x_166, .ref x_167, .int (nI x_168), .ref x_169, .ref x_170, .ref x_171, .ref x_172, .ref x_173, .ref x_174, .ref x_175, .ref x_176, .ref x_177, .ref x_178, .ref x_179, .int (nI x_180)]) hx hb hT iX12 tyX12 tyX12_ok nmX12 hown hK hW hT_o.1 hS_o rfl 12 (by decide) w1094 rfl (by decide +kernel) rfl rfl (Nat.le_of_ble_eq_true rfl) rfl dX12_lineRead_125 (fun H locs S_185 e1 hW => ?_)
          have hTy := hTy.u12 e1 hT_o ⟨rs, x_151, x_152, x_153, x_154, pa149, ki149, x_157, x_158, x_159, sn, sp149 + 1, wr149, wa149, z_143, ra149, x_166, x_167, x_168, x_169, x_170, x_171, x_172, x_173, x_174, x_175, x_176, x_177, x_178, x_179, x_180, rfl, hT_x_1, hT_x_151, hT_x_152, hT_x_153, hT_x_154, (by omega), (by omega), (by omega), hT_x_159, (by show pr.2 ≤ 900; omega), (by omega), (by omega), hT_x_166, hT_x_167, (by omega), hT_x_169, hT_x_170, hT_x_171, hT_x_172, hT_x_173, hT_x_174, hT_x_175, hT_x_176, hT_x_177, hT_x_178, hT_x_179, (by omega)⟩
          have hS_x_10 := un e1 hT_x_10 hT_o (by decide) hS_x_10
          have hS_x_47 := un e1 hT_x_47 hT_o (by decide) hS_x_47
          have hS_x_159 := un e1 hT_x_159 hT_o (by decide) hS_x_159
          have hS_x_153 := un e1 hT_x_153 hT_o (by decide) hS_x_153
          have hS_rs := un e1 hT_x_1 hT_o (by decide) hS_rs
          have hws := (show wrs (.inr (12, [.ref rs, .ref x_151, .ref x_152, .ref x_153, .ref x_154, .int (nI pa149), .int (nI ki149), .int (nI x_157), .int x_158, .ref x_159, .int (nI (pr.2)), .int (nI sn), .int (nI (sp149 + 1)), .int wr149, .int wa149, .int z_143, .int ra149, .ref x_166, .ref x_167, .int (nI x_168), .ref x_169, .ref x_170, .ref x_171, .ref x_172, .ref x_173, .ref x_174, .ref x_175, .ref x_176, .ref x_177, .ref x_178, .ref x_179, .int (nI x_180)])) = wrs (S_148 o) from by rw [hS_o]; rfl)
          have hFr := ufs hFr e1 hT_o (by decide) hws
          have hS_o := us e1
          exact W.vret hx hb hr (fun t ht h9 => ⟨⟨S_185, rfl, ⟨hTy, hFr, ⟨sp149 + 1, _, _, _, _, _, pa149, ki149, ⟨MKi (sp := (sp149 + 1)) (sn := sn) (pa := pa149) (ki := ki149) hS_o rfl rfl rfl rfl rfl rfl (by omega) (by omega) (by omega) (by omega), inf_i hS_o rfl, inf_i hS_o rfl, inf_i hS_o rfl, fld_i hS_o rfl hS_x_159, lfd_i hS_o rfl hS_x_153⟩, by rw [hEL]; exact ERR_t EB_b hER149 (fun _ => ⟨rfl, rfl⟩) (fun a b => absurd (ERR_z hER149 a b).1 c_97), fun z => by rw [hEL] at z; exact absurd (ERR_z hER149 hw0 (fe_0 z).1).1 c_97, (by rw [fld_i hS_o rfl hS_rs]; exact hdg_)⟩⟩, by rw [ht]; exact hW.1, va_K.moved h9.alike hK, hW.2.1⟩, hW.2.2.F ht⟩) hW.2.2.2.2 dX12_lineRead_128
        · have hbz : (EB g sn df pa ki mn kf wz (tke g sn sp)).1 = 0 := by by_cases q : (EB g sn df pa ki mn kf wz (tke g sn sp)).1 = 0; exact q; exact absurd c_97 (ERR_n hER149 hw0 q EB_b).1
          obtain ⟨hk1, hk2, hk3, hk4, hk5, hk6⟩ := hOK149 hbz
          have hpb9 := PB_i (g := g) (n := sn) (w := wz) (p := tke g sn sp) (by omega) (by omega)
          have hk7 := hk6
          rw [fld_i hS_o rfl hS_rs] at hk7
          refine lv_aload_n hx hb dX12_lineRead_100 rfl (lv_at hl 2 rfl) ?_
          refine pl_calli (va_runV (As := []) (rest := []) ⟨hx, hb, hml, hown, hT⟩ (f_peek l dC dI cy L kap pr S_148 H.size o hTy hT_o g nm149 sp149 sn wr149 wa149 z_143 ra149 pa149 ki149 rs ⟨MKi (sp := sp149) (sn := sn) (pa := pa149) (ki := ki149) hS_o rfl rfl rfl rfl rfl rfl (by omega) (by omega) (by omega) (by omega), inf_i hS_o rfl, inf_i hS_o rfl, inf_i hS_o rfl, fld_i hS_o rfl hS_x_159, lfd_i hS_o rfl hS_x_153⟩ (by omega) hg) (cwV 0 hT (gV w1190 w1192 ws55 w14 w1193) rfl rfl rfl (by decide +kernel) ⟨(Nat.le_of_ble_eq_true rfl), (Nat.le_of_ble_eq_true rfl)⟩) ⟨pcN.blind, pl_recv hK hW hT_o.1 hS_o rfl, pcN.pre hW.1 hK hW.2.1 hN (fun q h => absurd h List.not_mem_nil)⟩ rfl rfl hl.1 rfl (lv_room (Nat.le_of_ble_eq_true rfl)) dX12_lineRead_101 ⟨(Nat.le_of_ble_eq_true rfl), (Nat.le_of_ble_eq_true rfl)⟩) hW hA0 hA (fun r_187 S_186 H locs hrel hW => ?_)
          obtain ⟨hTy, hF1, hx1⟩ := hrel
          have hFr := hFr.tr hF1 (by decide)
          have hS_x_10 := hF1.at hT_x_10 (by decide) hS_x_10
          have hS_x_47 := hF1.at hT_x_47 (by decide) hS_x_47
          have hS_x_159 := hF1.at hT_x_159 (by decide) hS_x_159
          have hS_x_153 := hF1.at hT_x_153 (by decide) hS_x_153
          have hS_rs := hF1.at hT_x_1 (by decide) hS_rs
          have hpk_ := hx1.2
          have hpb_ := SK_le (g := g) (n := sn) (i := sp149) (by omega)
          have hpg_ := SK_ge (g := g) (n := sn) (i := sp149)
          obtain ⟨x_188, x_189, x_190, x_191, x_192, x_193, x_194, x_195, x_196, x_197, x_198, x_199, x_200, x_201, x_202, x_203, x_204, x_205, x_206, x_207, x_208, x_209, x_210, x_211, x_212, x_213, x_214, x_215, x_216, x_217, x_218, hS_o, hT_x_188, hT_x_189, hT_x_190, hT_x_191, hT_x_192, hb_x_193, hb_x_194, hb_x_195, hT_x_197, hb_q2, hb_x_198, hb_x_199, hT_x_204, hT_x_205, hb_x_206, hT_x_207, hT_x_208, hT_x_209, hT_x_210, hT_x_211, hT_x_212, hT_x_213, hT_x_214, hT_x_215, hT_x_216, hT_x_217, hb_x_218⟩ := hTy.k12 hT_o
          have hb_q2 : pr.2 ≤ 900 := hb_q2
          have hS_o : S_186 o = .inr (12, [.ref x_188, .ref x_189, .ref x_190, .ref x_191, .ref x_192, .int (nI x_193), .int (nI x_194), .int (nI x_195), .int x_196, .ref x_197, .int (nI (pr.2)), .int (nI x_198), .int (nI x_199), .int x_200, .int x_201, .int x_202, .int x_203, .ref x_204, .ref x_205, .int (nI x_206), .ref x_207, .ref x_208, .ref x_209, .ref x_210, .ref x_211, .ref x_212, .ref x_213, .ref x_214, .ref x_215, .ref x_216, .ref x_217, .int (nI x_218)]) := hS_o
          obtain ⟨hMK_, h14_, h15_, h16_, h9_, h3_⟩ := hx1.1
          obtain ⟨e12_, e11_, e13_, e5_, e6_, e0_⟩ := MKe hMK_ hS_o rfl rfl rfl rfl rfl rfl (by omega) (by omega) (by omega) (by omega)
          subst e12_ e11_ e13_ e5_ e6_ e0_
          have e14_ := h14_.symm.trans (inf_i hS_o rfl)
          subst e14_
          have e15_ := h15_.symm.trans (inf_i hS_o rfl)
          subst e15_
          have e16_ := h16_.symm.trans (inf_i hS_o rfl)
          subst e16_
          obtain ⟨f_219, hS_x_197⟩ := hTy.k55 hT_x_197
          have e9_ := h9_.symm.trans (fld_i hS_o rfl hS_x_197)
          subst e9_
          obtain ⟨f_220, hS_x_191⟩ := hTy.k53 hT_x_191
          have e3_ := h3_.symm.trans (lfd_i hS_o rfl hS_x_191)
          subst e3_
          refine lv_bipush (v := 59) hx hb dX12_lineRead_104 (by decide) ?_
          have hps := PK_s (g := g) (n := sn) (p := sp149) hg (by omega)
          rw [← hpk_, hk1] at hps
          refine lv_icmp_eq (tgt := 118) hx hb dX12_lineRead_106 (by decide) (fun c_106 => ?_) (fun c_106 => ?_)
          · have hs2 := hps.mp c_106
            have hes : ES g sn (PB g sn wz (tke g sn sp)) = (0, 0) := if_pos hs2
            refine lv_aload_n hx hb dX12_lineRead_118 rfl (lv_at hl 2 rfl) ?_
            refine lv_dup hx hb dX12_lineRead_119 rfl ?_
            refine pl_get (ci := 12) (v := .int (nI (SK g sn sp149))) (C := RX12) (T := TX12) (N := 32) hx hb hT iX12 hown hK hW hT_o.1 hS_o rfl 12 (by decide) w1094 rfl dX12_lineRead_120 ?_
            refine lv_iconst (v := 1) hx hb dX12_lineRead_123 (by decide) ?_
            refine lv_iadd hx hb dX12_lineRead_124 ?_
            refine lv_topi (fun z_221 ez_221 => ?_)
            obtain rfl : z_221 = nI ((SK g sn sp149) + 1) := ez_221.trans (nI_add (SK g sn sp149) (1))
            refine pl_put (ci := 12) (v := .int (nI ((SK g sn sp149) + 1))) (ty := .int) (C := RX12) (T := TX12) (N := 32) (fs' := [.ref rs, .ref x_189, .ref x_190, .ref x_191, .ref x_192, .int (nI pa149), .int (nI ki149), .int (nI x_195), .int x_196, .ref x_197, .int (nI (pr.2)), .int (nI sn), .int (nI ((SK g sn sp149) + 1)), .int wr149, .int wa149, .int z_143, .int ra149, .ref x_204, .ref x_205, .int (nI x_206), .ref x_207, .ref x_208, .ref x_209, .ref x_210, .ref x_211, .ref x_212, .ref x_213, .ref x_214, .ref x_215, .ref x_216, .ref x_217, .int (nI x_218)]) hx hb hT iX12 tyX12 tyX12_ok nmX12 hown hK hW hT_o.1 hS_o rfl 12 (by decide) w1094 rfl (by decide +kernel) rfl rfl (Nat.le_of_ble_eq_true rfl) rfl dX12_lineRead_125 (fun H locs S_222 e1 hW => ?_)
            have hTy := hTy.u12 e1 hT_o ⟨rs, x_189, x_190, x_191, x_192, pa149, ki149, x_195, x_196, x_197, sn, (SK g sn sp149) + 1, wr149, wa149, z_143, ra149, x_204, x_205, x_206, x_207, x_208, x_209, x_210, x_211, x_212, x_213, x_214, x_215, x_216, x_217, x_218, rfl, hT_x_1, hT_x_189, hT_x_190, hT_x_191, hT_x_192, (by omega), (by omega), (by omega), hT_x_197, (by show pr.2 ≤ 900; omega), (by omega), (by omega), hT_x_204, hT_x_205, (by omega), hT_x_207, hT_x_208, hT_x_209, hT_x_210, hT_x_211, hT_x_212, hT_x_213, hT_x_214, hT_x_215, hT_x_216, hT_x_217, (by omega)⟩
            have hS_x_10 := un e1 hT_x_10 hT_o (by decide) hS_x_10
            have hS_x_47 := un e1 hT_x_47 hT_o (by decide) hS_x_47
            have hS_x_159 := un e1 hT_x_159 hT_o (by decide) hS_x_159
            have hS_x_153 := un e1 hT_x_153 hT_o (by decide) hS_x_153
            have hS_rs := un e1 hT_x_1 hT_o (by decide) hS_rs
            have hS_x_197 := un e1 hT_x_197 hT_o (by decide) hS_x_197
            have hS_x_191 := un e1 hT_x_191 hT_o (by decide) hS_x_191
            have hws := (show wrs (.inr (12, [.ref rs, .ref x_189, .ref x_190, .ref x_191, .ref x_192, .int (nI pa149), .int (nI ki149), .int (nI x_195), .int x_196, .ref x_197, .int (nI (pr.2)), .int (nI sn), .int (nI ((SK g sn sp149) + 1)), .int wr149, .int wa149, .int z_143, .int ra149, .ref x_204, .ref x_205, .int (nI x_206), .ref x_207, .ref x_208, .ref x_209, .ref x_210, .ref x_211, .ref x_212, .ref x_213, .ref x_214, .ref x_215, .ref x_216, .ref x_217, .int (nI x_218)])) = wrs (S_186 o) from by rw [hS_o]; rfl)
            have hFr := ufs hFr e1 hT_o (by decide) hws
            have hS_o := us e1
            exact W.vret hx hb hr (fun t ht h9 => ⟨⟨S_222, rfl, ⟨hTy, hFr, ⟨(SK g sn sp149) + 1, _, _, _, _, _, pa149, ki149, ⟨MKi (sp := ((SK g sn sp149) + 1)) (sn := sn) (pa := pa149) (ki := ki149) hS_o rfl rfl rfl rfl rfl rfl (by omega) (by omega) (by omega) (by omega), inf_i hS_o rfl, inf_i hS_o rfl, inf_i hS_o rfl, fld_i hS_o rfl hS_x_197, lfd_i hS_o rfl hS_x_191⟩, by rw [hEL, hes]; exact ERR_t EB_b hER149 (fun a => absurd c_97 a) (fun _ _ => ERR_0), fun _ => ⟨by rw [PLn, hcw, tk2_e hs2, hk1], by rw [hk1]; have q := tke_i (g := g) hpb9.2 (by omega); rw [tk2_e hs2] at q; omega, by rw [hcw]; exact hk2, by rw [hcw]; exact hk3, by rw [hcw]; exact hk4, by rw [hcw]; exact hk5, by rw [hcw]; exact (by rw [fld_i hS_o rfl hS_rs]; exact hk7), by rw [hcw]; exact hmd⟩, (by rw [fld_i hS_o rfl hS_rs]; exact hdg_)⟩⟩, by rw [ht]; exact hW.1, va_K.moved h9.alike hK, hW.2.1⟩, hW.2.2.F ht⟩) hW.2.2.2.2 dX12_lineRead_128
          · have hes : ES g sn (PB g sn wz (tke g sn sp)) = (1, SK g sn (PB g sn wz (tke g sn sp))) := if_neg (fun z => c_106 (hps.mpr z))
            refine lv_aload_n hx hb dX12_lineRead_109 rfl (lv_at hl 2 rfl) ?_
            refine lv_iconst (v := 1) hx hb dX12_lineRead_110 (by decide) ?_
            refine lv_aload_n hx hb dX12_lineRead_111 rfl (lv_at hl 2 rfl) ?_
            refine pl_get (ci := 12) (v := .int (nI (SK g sn sp149))) (C := RX12) (T := TX12) (N := 32) hx hb hT iX12 hown hK hW hT_o.1 hS_o rfl 12 (by decide) w1094 rfl dX12_lineRead_112 ?_
            refine pl_callv (va_runV (As := [.int 1, .int (nI (SK g sn sp149))]) (rest := []) ⟨hx, hb, hml, hown, hT⟩ (f_fails l dC dI cy L kap pr S_186 H.size o 1 (nI (SK g sn sp149)) hTy hT_o g nm149 (SK g sn sp149) sn wr149 wa149 z_143 ra149 pa149 ki149 rs ⟨MKi (sp := (SK g sn sp149)) (sn := sn) (pa := pa149) (ki := ki149) hS_o rfl rfl rfl rfl rfl rfl (by omega) (by omega) (by omega) (by omega), inf_i hS_o rfl, inf_i hS_o rfl, inf_i hS_o rfl, fld_i hS_o rfl hS_x_197, lfd_i hS_o rfl hS_x_191⟩ (by omega) hg) (cwV 2 hT (gV w1214 w1216 ws59 w14 w1217) rfl rfl rfl (by decide +kernel) ⟨(Nat.le_of_ble_eq_true rfl), (Nat.le_of_ble_eq_true rfl)⟩) ⟨pcN.blind, pl_recv hK hW hT_o.1 hS_o rfl, pcN.pre hW.1 hK hW.2.1 hN (fun q h => absurd h List.not_mem_nil)⟩ rfl rfl hl.1 rfl (lv_room (Nat.le_of_ble_eq_true rfl)) dX12_lineRead_115 ⟨(Nat.le_of_ble_eq_true rfl), (Nat.le_of_ble_eq_true rfl)⟩) hW hA0 hA (fun S_223 H locs hrel hW => ?_)
            obtain ⟨hTy, hF1, hx1⟩ := hrel
            have hFr := hFr.tr hF1 (by decide)
            have hS_x_10 := hF1.at hT_x_10 (by decide) hS_x_10
            have hS_x_47 := hF1.at hT_x_47 (by decide) hS_x_47
            have hS_x_159 := hF1.at hT_x_159 (by decide) hS_x_159
            have hS_x_153 := hF1.at hT_x_153 (by decide) hS_x_153
            have hS_rs := hF1.at hT_x_1 (by decide) hS_rs
            have hS_x_197 := hF1.at hT_x_197 (by decide) hS_x_197
            have hS_x_191 := hF1.at hT_x_191 (by decide) hS_x_191
            obtain ⟨wr224, wa224, hM224, hfa224, hfb224⟩ := hx1
            obtain ⟨x_225, x_226, x_227, x_228, x_229, x_230, x_231, x_232, x_233, x_234, x_235, x_236, x_237, x_238, x_239, x_240, x_241, x_242, x_243, x_244, x_245, x_246, x_247, x_248, x_249, x_250, x_251, x_252, x_253, x_254, x_255, hS_o, hT_x_225, hT_x_226, hT_x_227, hT_x_228, hT_x_229, hb_x_230, hb_x_231, hb_x_232, hT_x_234, hb_q2, hb_x_235, hb_x_236, hT_x_241, hT_x_242, hb_x_243, hT_x_244, hT_x_245, hT_x_246, hT_x_247, hT_x_248, hT_x_249, hT_x_250, hT_x_251, hT_x_252, hT_x_253, hT_x_254, hb_x_255⟩ := hTy.k12 hT_o
            have hb_q2 : pr.2 ≤ 900 := hb_q2
            have hS_o : S_223 o = .inr (12, [.ref x_225, .ref x_226, .ref x_227, .ref x_228, .ref x_229, .int (nI x_230), .int (nI x_231), .int (nI x_232), .int x_233, .ref x_234, .int (nI (pr.2)), .int (nI x_235), .int (nI x_236), .int x_237, .int x_238, .int x_239, .int x_240, .ref x_241, .ref x_242, .int (nI x_243), .ref x_244, .ref x_245, .ref x_246, .ref x_247, .ref x_248, .ref x_249, .ref x_250, .ref x_251, .ref x_252, .ref x_253, .ref x_254, .int (nI x_255)]) := hS_o
            obtain ⟨hMK_, h14_, h15_, h16_, h9_, h3_⟩ := hM224
            obtain ⟨e12_, e11_, e13_, e5_, e6_, e0_⟩ := MKe hMK_ hS_o rfl rfl rfl rfl rfl rfl (by omega) (by omega) (by omega) (by omega)
            subst e12_ e11_ e13_ e5_ e6_ e0_
            have e14_ := h14_.symm.trans (inf_i hS_o rfl)
            subst e14_
            have e15_ := h15_.symm.trans (inf_i hS_o rfl)
            subst e15_
            have e16_ := h16_.symm.trans (inf_i hS_o rfl)
            subst e16_
            obtain ⟨f_256, hS_x_234⟩ := hTy.k55 hT_x_234
            have e9_ := h9_.symm.trans (fld_i hS_o rfl hS_x_234)
            subst e9_
            obtain ⟨f_257, hS_x_228⟩ := hTy.k53 hT_x_228
            have e3_ := h3_.symm.trans (lfd_i hS_o rfl hS_x_228)
            subst e3_
            refine lv_aload_n hx hb dX12_lineRead_118 rfl (lv_at hl 2 rfl) ?_
            refine lv_dup hx hb dX12_lineRead_119 rfl ?_
            refine pl_get (ci := 12) (v := .int (nI (SK g sn sp149))) (C := RX12) (T := TX12) (N := 32) hx hb hT iX12 hown hK hW hT_o.1 hS_o rfl 12 (by decide) w1094 rfl dX12_lineRead_120 ?_
            refine lv_iconst (v := 1) hx hb dX12_lineRead_123 (by decide) ?_
            refine lv_iadd hx hb dX12_lineRead_124 ?_
            refine lv_topi (fun z_258 ez_258 => ?_)
            obtain rfl : z_258 = nI ((SK g sn sp149) + 1) := ez_258.trans (nI_add (SK g sn sp149) (1))
            refine pl_put (ci := 12) (v := .int (nI ((SK g sn sp149) + 1))) (ty := .int) (C := RX12) (T := TX12) (N := 32) (fs' := [.ref rs, .ref x_226, .ref x_227, .ref x_228, .ref x_229, .int (nI pa149), .int (nI ki149), .int (nI x_232), .int x_233, .ref x_234, .int (nI (pr.2)), .int (nI sn), .int (nI ((SK g sn sp149) + 1)), .int wr224, .int wa224, .int z_143, .int ra149, .ref x_241, .ref x_242, .int (nI x_243), .ref x_244, .ref x_245, .ref x_246, .ref x_247, .ref x_248, .ref x_249, .ref x_250, .ref x_251, .ref x_252, .ref x_253, .ref x_254, .int (nI x_255)]) hx hb hT iX12 tyX12 tyX12_ok nmX12 hown hK hW hT_o.1 hS_o rfl 12 (by decide) w1094 rfl (by decide +kernel) rfl rfl (Nat.le_of_ble_eq_true rfl) rfl dX12_lineRead_125 (fun H locs S_259 e1 hW => ?_)
            have hTy := hTy.u12 e1 hT_o ⟨rs, x_226, x_227, x_228, x_229, pa149, ki149, x_232, x_233, x_234, sn, (SK g sn sp149) + 1, wr224, wa224, z_143, ra149, x_241, x_242, x_243, x_244, x_245, x_246, x_247, x_248, x_249, x_250, x_251, x_252, x_253, x_254, x_255, rfl, hT_x_1, hT_x_226, hT_x_227, hT_x_228, hT_x_229, (by omega), (by omega), (by omega), hT_x_234, (by show pr.2 ≤ 900; omega), (by omega), (by omega), hT_x_241, hT_x_242, (by omega), hT_x_244, hT_x_245, hT_x_246, hT_x_247, hT_x_248, hT_x_249, hT_x_250, hT_x_251, hT_x_252, hT_x_253, hT_x_254, (by omega)⟩
            have hS_x_10 := un e1 hT_x_10 hT_o (by decide) hS_x_10
            have hS_x_47 := un e1 hT_x_47 hT_o (by decide) hS_x_47
            have hS_x_159 := un e1 hT_x_159 hT_o (by decide) hS_x_159
            have hS_x_153 := un e1 hT_x_153 hT_o (by decide) hS_x_153
            have hS_rs := un e1 hT_x_1 hT_o (by decide) hS_rs
            have hS_x_197 := un e1 hT_x_197 hT_o (by decide) hS_x_197
            have hS_x_191 := un e1 hT_x_191 hT_o (by decide) hS_x_191
            have hS_x_234 := un e1 hT_x_234 hT_o (by decide) hS_x_234
            have hS_x_228 := un e1 hT_x_228 hT_o (by decide) hS_x_228
            have hws := (show wrs (.inr (12, [.ref rs, .ref x_226, .ref x_227, .ref x_228, .ref x_229, .int (nI pa149), .int (nI ki149), .int (nI x_232), .int x_233, .ref x_234, .int (nI (pr.2)), .int (nI sn), .int (nI ((SK g sn sp149) + 1)), .int wr224, .int wa224, .int z_143, .int ra149, .ref x_241, .ref x_242, .int (nI x_243), .ref x_244, .ref x_245, .ref x_246, .ref x_247, .ref x_248, .ref x_249, .ref x_250, .ref x_251, .ref x_252, .ref x_253, .ref x_254, .int (nI x_255)])) = wrs (S_223 o) from by rw [hS_o]; rfl)
            have hFr := ufs hFr e1 hT_o (by decide) hws
            have hS_o := us e1
            exact W.vret hx hb hr (fun t ht h9 => ⟨⟨S_259, rfl, ⟨hTy, hFr, ⟨(SK g sn sp149) + 1, _, _, _, _, _, pa149, ki149, ⟨MKi (sp := ((SK g sn sp149) + 1)) (sn := sn) (pa := pa149) (ki := ki149) hS_o rfl rfl rfl rfl rfl rfl (by omega) (by omega) (by omega) (by omega), inf_i hS_o rfl, inf_i hS_o rfl, inf_i hS_o rfl, fld_i hS_o rfl hS_x_234, lfd_i hS_o rfl hS_x_228⟩, by rw [hEL, hes]; exact ERR_t EB_b hER149 (fun a => absurd c_97 a) (fun _ _ => ERR_e c_97 (show (1 : Nat) ≠ 0 from by decide) (by have q := hfb224 c_97; rw [hk1] at q; exact q)), fun z => by rw [hEL, hes] at z; exact absurd (show (1 : Nat) = 0 from (fe_0 z).2) (by decide), (by rw [fld_i hS_o rfl hS_rs]; exact hdg_)⟩⟩, by rw [ht]; exact hW.1, va_K.moved h9.alike hK, hW.2.1⟩, hW.2.2.F ht⟩) hW.2.2.2.2 dX12_lineRead_128
    · have c_17 : wz = 5 := (nI_eq (a := wz) (b := 5) (by omega) (by omega)).mp c_17
      refine lv_aload_n hx hb dX12_lineRead_20 rfl (lv_at hl 2 rfl) ?_
      refine pl_get (ci := 12) (v := .int sen) (C := RX12) (T := TX12) (N := 32) hx hb hT iX12 hown hK hW hT_o.1 hS_o rfl 15 (by decide) w1097 rfl dX12_lineRead_21 ?_
      refine lv_iconst (v := 5) hx hb dX12_lineRead_24 (by decide) ?_
      refine lv_ishr hx hb dX12_lineRead_25 ?_
      refine lv_topi (fun z_260 ez_260 => ?_)
      refine lv_iconst (v := 1) hx hb dX12_lineRead_26 (by decide) ?_
      refine lv_iand hx hb dX12_lineRead_27 ?_
      refine lv_topi (fun z_261 ez_261 => ?_)
      refine lv_iconst (v := 1) hx hb dX12_lineRead_28 (by decide) ?_
      refine lv_icmp_ne (tgt := 41) hx hb dX12_lineRead_29 (by decide) (fun c_29 => ?_) (fun c_29 => ?_)
      · have h5m : wz = 5 → bt sen 5 = false := fun _ => sb_f (p := 5) (by omega) ez_260 ez_261 c_29
        refine lv_aload_n hx hb dX12_lineRead_41 rfl (lv_at hl 2 rfl) ?_
        refine lv_iload_n hx hb dX12_lineRead_42 rfl (lv_at hl 1 rfl) ?_
        refine vp_callSi (va_Run.run (va_runV (As := [.int (nI wz)]) (rest := []) ⟨hx, hb, hml, hown, hT⟩ (f_isFull l dC dI cy L kap pr S_35 H.size o (nI wz) hTy hT_o g nm (SK g sn sp) sn wr wa sen ra pa ki rs ⟨MKi (sp := (SK g sn sp)) (sn := sn) (pa := pa) (ki := ki) hS_o rfl rfl rfl rfl rfl rfl (by omega) (by omega) (by omega) (by omega), inf_i hS_o rfl, inf_i hS_o rfl, inf_i hS_o rfl, fld_i hS_o rfl hS_x_47, lfd_i hS_o rfl hS_x_41⟩ (by omega) hg mn (mnyi hS_o rfl hS_rs h0_) hm40_) (cwV 1 hT (gV w1218 w1220 ws60 w14 w1221) rfl rfl rfl (by decide +kernel) ⟨(Nat.le_of_ble_eq_true rfl), (Nat.le_of_ble_eq_true rfl)⟩) ⟨pcN.blind, pl_recv hK hW hT_o.1 hS_o rfl, pcN.pre hW.1 hK hW.2.1 hN (fun q h => absurd h List.not_mem_nil)⟩ rfl rfl hl.1 rfl (lv_room (Nat.le_of_ble_eq_true rfl)) dX12_lineRead_43 ⟨(Nat.le_of_ble_eq_true rfl), (Nat.le_of_ble_eq_true rfl)⟩)) (fun r_262 hr_262 => ?_)
        rcases hr_262 with hc_ | hc_
        · obtain ⟨rfl, hful⟩ := hc_
          refine lv_if_eq (tgt := 55) hx hb dX12_lineRead_46 (by decide) (fun h => absurd h (by decide)) (fun _ => ?_)
          have hEL := EL_4 (df := df) (kf := kf) hcl h5m ((FUL_i hb_wz).mp hful)
          refine lv_aload_n hx hb dX12_lineRead_49 rfl (lv_at hl 2 rfl) ?_
          refine lv_iconst (v := 4) hx hb dX12_lineRead_50 (by decide) ?_
          refine lv_iload_n hx hb dX12_lineRead_51 rfl (lv_at hl 0 rfl) ?_
          refine pl_callv (va_runV (As := [.int 4, .int (nI (SK g sn sp))]) (rest := []) ⟨hx, hb, hml, hown, hT⟩ (f_fails l dC dI cy L kap pr S_35 H.size o 4 (nI (SK g sn sp)) hTy hT_o g nm (SK g sn sp) sn wr wa sen ra pa ki rs ⟨MKi (sp := (SK g sn sp)) (sn := sn) (pa := pa) (ki := ki) hS_o rfl rfl rfl rfl rfl rfl (by omega) (by omega) (by omega) (by omega), inf_i hS_o rfl, inf_i hS_o rfl, inf_i hS_o rfl, fld_i hS_o rfl hS_x_47, lfd_i hS_o rfl hS_x_41⟩ (by omega) hg) (cwV 2 hT (gV w1214 w1216 ws59 w14 w1217) rfl rfl rfl (by decide +kernel) ⟨(Nat.le_of_ble_eq_true rfl), (Nat.le_of_ble_eq_true rfl)⟩) ⟨pcN.blind, pl_recv hK hW hT_o.1 hS_o rfl, pcN.pre hW.1 hK hW.2.1 hN (fun q h => absurd h List.not_mem_nil)⟩ rfl rfl hl.1 rfl (lv_room (Nat.le_of_ble_eq_true rfl)) dX12_lineRead_52 ⟨(Nat.le_of_ble_eq_true rfl), (Nat.le_of_ble_eq_true rfl)⟩) hW hA0 hA (fun S_263 H locs hrel hW => ?_)
          obtain ⟨hTy, hF1, hx1⟩ := hrel
          have hFr := hFr.tr hF1 (by decide)
          have hS_x_10 := hF1.at hT_x_10 (by decide) hS_x_10
          have hS_x_4 := hF1.at hT_x_4 (by decide) hS_x_4
          have hS_rs := hF1.at hT_x_1 (by decide) hS_rs
          have hS_x_47 := hF1.at hT_x_47 (by decide) hS_x_47
          have hS_x_41 := hF1.at hT_x_41 (by decide) hS_x_41
          obtain ⟨wr264, wa264, hM264, hfa264, hfb264⟩ := hx1
          obtain ⟨x_265, x_266, x_267, x_268, x_269, x_270, x_271, x_272, x_273, x_274, x_275, x_276, x_277, x_278, x_279, x_280, x_281, x_282, x_283, x_284, x_285, x_286, x_287, x_288, x_289, x_290, x_291, x_292, x_293, x_294, x_295, hS_o, hT_x_265, hT_x_266, hT_x_267, hT_x_268, hT_x_269, hb_x_270, hb_x_271, hb_x_272, hT_x_274, hb_q2, hb_x_275, hb_x_276, hT_x_281, hT_x_282, hb_x_283, hT_x_284, hT_x_285, hT_x_286, hT_x_287, hT_x_288, hT_x_289, hT_x_290, hT_x_291, hT_x_292, hT_x_293, hT_x_294, hb_x_295⟩ := hTy.k12 hT_o
          have hb_q2 : pr.2 ≤ 900 := hb_q2
          have hS_o : S_263 o = .inr (12, [.ref x_265, .ref x_266, .ref x_267, .ref x_268, .ref x_269, .int (nI x_270), .int (nI x_271), .int (nI x_272), .int x_273, .ref x_274, .int (nI (pr.2)), .int (nI x_275), .int (nI x_276), .int x_277, .int x_278, .int x_279, .int x_280, .ref x_281, .ref x_282, .int (nI x_283), .ref x_284, .ref x_285, .ref x_286, .ref x_287, .ref x_288, .ref x_289, .ref x_290, .ref x_291, .ref x_292, .ref x_293, .ref x_294, .int (nI x_295)]) := hS_o
          obtain ⟨hMK_, h14_, h15_, h16_, h9_, h3_⟩ := hM264
          obtain ⟨e12_, e11_, e13_, e5_, e6_, e0_⟩ := MKe hMK_ hS_o rfl rfl rfl rfl rfl rfl (by omega) (by omega) (by omega) (by omega)
          subst e12_ e11_ e13_ e5_ e6_ e0_
          have e14_ := h14_.symm.trans (inf_i hS_o rfl)
          subst e14_
          have e15_ := h15_.symm.trans (inf_i hS_o rfl)
          subst e15_
          have e16_ := h16_.symm.trans (inf_i hS_o rfl)
          subst e16_
          obtain ⟨f_296, hS_x_274⟩ := hTy.k55 hT_x_274
          have e9_ := h9_.symm.trans (fld_i hS_o rfl hS_x_274)
          subst e9_
          obtain ⟨f_297, hS_x_268⟩ := hTy.k53 hT_x_268
          have e3_ := h3_.symm.trans (lfd_i hS_o rfl hS_x_268)
          subst e3_
          refine lv_aload_n hx hb dX12_lineRead_55 rfl (lv_at hl 2 rfl) ?_
          refine pl_get (ci := 12) (v := .int wr264) (C := RX12) (T := TX12) (N := 32) hx hb hT iX12 hown hK hW hT_o.1 hS_o rfl 13 (by decide) w1095 rfl dX12_lineRead_56 ?_
          refine lv_if_eq (tgt := 63) hx hb dX12_lineRead_59 (by decide) (fun h => absurd h (by rw [(hfb264 hw0).1]; decide)) (fun _ => ?_)
          exact W.vret hx hb hr (fun t ht h9 => ⟨⟨S_263, rfl, ⟨hTy, hFr, ⟨SK g sn sp, _, _, _, _, _, pa, ki, ⟨MKi (sp := (SK g sn sp)) (sn := sn) (pa := pa) (ki := ki) hS_o rfl rfl rfl rfl rfl rfl (by omega) (by omega) (by omega) (by omega), inf_i hS_o rfl, inf_i hS_o rfl, inf_i hS_o rfl, fld_i hS_o rfl hS_x_274, lfd_i hS_o rfl hS_x_268⟩, by rw [hEL]; exact ERR_e hw0 (show (4 : Nat) ≠ 0 from by decide) (hfb264 hw0), fun z => by rw [hEL] at z; exact absurd (show (4 : Nat) = 0 from z) (by decide), (by rw [fld_i hS_o rfl hS_rs]; exact hdg_)⟩⟩, by rw [ht]; exact hW.1, va_K.moved h9.alike hK, hW.2.1⟩, hW.2.2.F ht⟩) hW.2.2.2.2 dX12_lineRead_62
        · obtain ⟨rfl, hful⟩ := hc_
          refine lv_if_eq (tgt := 55) hx hb dX12_lineRead_46 (by decide) (fun _ => ?_) (fun h => absurd (by decide) h)
          refine lv_aload_n hx hb dX12_lineRead_55 rfl (lv_at hl 2 rfl) ?_
          refine pl_get (ci := 12) (v := .int wr) (C := RX12) (T := TX12) (N := 32) hx hb hT iX12 hown hK hW hT_o.1 hS_o rfl 13 (by decide) w1095 rfl dX12_lineRead_56 ?_
          refine lv_if_eq (tgt := 63) hx hb dX12_lineRead_59 (by decide) (fun _ => ?_) (fun h => absurd hw0 h)
          have hnf : ¬ FUL wz pa ki mn := fun z => hful ((FUL_i hb_wz).mpr z)
          have hEL := EL_b (df := df) (kf := kf) hcl h5m hnf
          have hcw : (tkc g sn sp - 5) = wz := by omega
          have hf0 : wz = 0 → pa < 8 := fun z => by by_cases q : pa = 8; exact absurd (Or.inl ⟨z, q⟩) hnf; omega
          have hf1 : wz = 1 → ki < 4 := fun z => by by_cases q : ki = 4; exact absurd (Or.inr (Or.inl ⟨z, q⟩)) hnf; omega
          have hf2 : wz = 2 → mn < 40 := fun z => by by_cases q : mn = 40; exact absurd (Or.inr (Or.inr ⟨z, q⟩)) hnf; omega
          refine lv_aload_n hx hb dX12_lineRead_63 rfl (lv_at hl 2 rfl) ?_
          refine lv_dup hx hb dX12_lineRead_64 rfl ?_
          refine pl_get (ci := 12) (v := .int sen) (C := RX12) (T := TX12) (N := 32) hx hb hT iX12 hown hK hW hT_o.1 hS_o rfl 15 (by decide) w1097 rfl dX12_lineRead_65 ?_
          refine lv_iconst (v := 1) hx hb dX12_lineRead_68 (by decide) ?_
          refine lv_iload_n hx hb dX12_lineRead_69 rfl (lv_at hl 1 rfl) ?_
          refine lv_ishl hx hb dX12_lineRead_70 ?_
          refine lv_topi (fun z_298 ez_298 => ?_)
          refine lv_ior hx hb dX12_lineRead_71 ?_
          refine lv_topi (fun z_299 ez_299 => ?_)
          have hmd := md_s hb_wz ez_298 ez_299
          refine pl_put (ci := 12) (v := .int z_299) (ty := .int) (C := RX12) (T := TX12) (N := 32) (fs' := [.ref rs, .ref x_39, .ref x_40, .ref x_41, .ref x_42, .int (nI pa), .int (nI ki), .int (nI x_45), .int x_46, .ref x_47, .int (nI (pr.2)), .int (nI sn), .int (nI (SK g sn sp)), .int wr, .int wa, .int z_299, .int ra, .ref x_54, .ref x_55, .int (nI x_56), .ref x_57, .ref x_58, .ref x_59, .ref x_60, .ref x_61, .ref x_62, .ref x_63, .ref x_64, .ref x_65, .ref x_66, .ref x_67, .int (nI x_68)]) hx hb hT iX12 tyX12 tyX12_ok nmX12 hown hK hW hT_o.1 hS_o rfl 15 (by decide) w1097 rfl (by decide +kernel) rfl rfl (Nat.le_of_ble_eq_true rfl) rfl dX12_lineRead_72 (fun H locs S_300 e1 hW => ?_)
          have hTy := hTy.u12 e1 hT_o ⟨rs, x_39, x_40, x_41, x_42, pa, ki, x_45, x_46, x_47, sn, SK g sn sp, wr, wa, z_299, ra, x_54, x_55, x_56, x_57, x_58, x_59, x_60, x_61, x_62, x_63, x_64, x_65, x_66, x_67, x_68, rfl, hT_x_1, hT_x_39, hT_x_40, hT_x_41, hT_x_42, (by omega), (by omega), (by omega), hT_x_47, (by show pr.2 ≤ 900; omega), (by omega), (by omega), hT_x_54, hT_x_55, (by omega), hT_x_57, hT_x_58, hT_x_59, hT_x_60, hT_x_61, hT_x_62, hT_x_63, hT_x_64, hT_x_65, hT_x_66, hT_x_67, (by omega)⟩
          have hS_x_10 := un e1 hT_x_10 hT_o (by decide) hS_x_10
          have hS_x_4 := un e1 hT_x_4 hT_o (by decide) hS_x_4
          have hS_rs := un e1 hT_x_1 hT_o (by decide) hS_rs
          have hS_x_47 := un e1 hT_x_47 hT_o (by decide) hS_x_47
          have hS_x_41 := un e1 hT_x_41 hT_o (by decide) hS_x_41
          have hws := (show wrs (.inr (12, [.ref rs, .ref x_39, .ref x_40, .ref x_41, .ref x_42, .int (nI pa), .int (nI ki), .int (nI x_45), .int x_46, .ref x_47, .int (nI (pr.2)), .int (nI sn), .int (nI (SK g sn sp)), .int wr, .int wa, .int z_299, .int ra, .ref x_54, .ref x_55, .int (nI x_56), .ref x_57, .ref x_58, .ref x_59, .ref x_60, .ref x_61, .ref x_62, .ref x_63, .ref x_64, .ref x_65, .ref x_66, .ref x_67, .int (nI x_68)])) = wrs (S_35 o) from by rw [hS_o]; rfl)
          have hFr := ufs hFr e1 hT_o (by decide) hws
          have hS_o := us e1
          refine lv_aload_n hx hb dX12_lineRead_75 rfl (lv_at hl 2 rfl) ?_
          refine lv_dup hx hb dX12_lineRead_76 rfl ?_
          refine pl_get (ci := 12) (v := .int (nI (SK g sn sp))) (C := RX12) (T := TX12) (N := 32) hx hb hT iX12 hown hK hW hT_o.1 hS_o rfl 12 (by decide) w1094 rfl dX12_lineRead_77 ?_
          refine lv_aload_n hx hb dX12_lineRead_80 rfl (lv_at hl 2 rfl) ?_
          refine vp_callSi (va_Run.run (va_runV (As := []) (rest := [.int (nI (SK g sn sp)), .ref o]) ⟨hx, hb, hml, hown, hT⟩ (f_letters l dC dI cy L kap pr S_300 H.size o hTy hT_o g nm (SK g sn sp) sn wr wa z_299 ra pa ki rs ⟨MKi (sp := (SK g sn sp)) (sn := sn) (pa := pa) (ki := ki) hS_o rfl rfl rfl rfl rfl rfl (by omega) (by omega) (by omega) (by omega), inf_i hS_o rfl, inf_i hS_o rfl, inf_i hS_o rfl, fld_i hS_o rfl hS_x_47, lfd_i hS_o rfl hS_x_41⟩ (by omega) hg) (cwV 0 hT (gV w1207 w1209 ws58 w14 w1210) rfl rfl rfl (by decide +kernel) ⟨(Nat.le_of_ble_eq_true rfl), (Nat.le_of_ble_eq_true rfl)⟩) ⟨pcN.blind, pl_recv hK hW hT_o.1 hS_o rfl, pcN.pre hW.1 hK hW.2.1 hN (fun q h => absurd h List.not_mem_nil)⟩ rfl rfl hl.1 rfl (lv_room (Nat.le_of_ble_eq_true rfl)) dX12_lineRead_81 ⟨(Nat.le_of_ble_eq_true rfl), (Nat.le_of_ble_eq_true rfl)⟩)) (fun r_301 hr_301 => ?_)
          have hlb_ := LT_le (g := g) (n := sn) (i := SK g sn sp) (by omega)
          have hlg_ := LT_ge (g := g) (n := sn) (i := SK g sn sp)
          obtain rfl : r_301 = nI (LT g sn (SK g sn sp) - (SK g sn sp)) := hr_301
          refine lv_iadd hx hb dX12_lineRead_84 ?_
          refine lv_topi (fun z_302 ez_302 => ?_)
          obtain rfl : z_302 = nI ((SK g sn sp) + (LT g sn (SK g sn sp) - (SK g sn sp))) := ez_302.trans (nI_add (SK g sn sp) (LT g sn (SK g sn sp) - (SK g sn sp)))
          refine pl_put (ci := 12) (v := .int (nI ((SK g sn sp) + (LT g sn (SK g sn sp) - (SK g sn sp))))) (ty := .int) (C := RX12) (T := TX12) (N := 32) (fs' := [.ref rs, .ref x_39, .ref x_40, .ref x_41, .ref x_42, .int (nI pa), .int (nI ki), .int (nI x_45), .int x_46, .ref x_47, .int (nI (pr.2)), .int (nI sn), .int (nI ((SK g sn sp) + (LT g sn (SK g sn sp) - (SK g sn sp)))), .int wr, .int wa, .int z_299, .int ra, .ref x_54, .ref x_55, .int (nI x_56), .ref x_57, .ref x_58, .ref x_59, .ref x_60, .ref x_61, .ref x_62, .ref x_63, .ref x_64, .ref x_65, .ref x_66, .ref x_67, .int (nI x_68)]) hx hb hT iX12 tyX12 tyX12_ok nmX12 hown hK hW hT_o.1 hS_o rfl 12 (by decide) w1094 rfl (by decide +kernel) rfl rfl (Nat.le_of_ble_eq_true rfl) rfl dX12_lineRead_85 (fun H locs S_303 e1 hW => ?_)
          have hTy := hTy.u12 e1 hT_o ⟨rs, x_39, x_40, x_41, x_42, pa, ki, x_45, x_46, x_47, sn, (SK g sn sp) + (LT g sn (SK g sn sp) - (SK g sn sp)), wr, wa, z_299, ra, x_54, x_55, x_56, x_57, x_58, x_59, x_60, x_61, x_62, x_63, x_64, x_65, x_66, x_67, x_68, rfl, hT_x_1, hT_x_39, hT_x_40, hT_x_41, hT_x_42, (by omega), (by omega), (by omega), hT_x_47, (by show pr.2 ≤ 900; omega), (by omega), (by omega), hT_x_54, hT_x_55, (by omega), hT_x_57, hT_x_58, hT_x_59, hT_x_60, hT_x_61, hT_x_62, hT_x_63, hT_x_64, hT_x_65, hT_x_66, hT_x_67, (by omega)⟩
          have hS_x_10 := un e1 hT_x_10 hT_o (by decide) hS_x_10
          have hS_x_4 := un e1 hT_x_4 hT_o (by decide) hS_x_4
          have hS_rs := un e1 hT_x_1 hT_o (by decide) hS_rs
          have hS_x_47 := un e1 hT_x_47 hT_o (by decide) hS_x_47
          have hS_x_41 := un e1 hT_x_41 hT_o (by decide) hS_x_41
          have hws := (show wrs (.inr (12, [.ref rs, .ref x_39, .ref x_40, .ref x_41, .ref x_42, .int (nI pa), .int (nI ki), .int (nI x_45), .int x_46, .ref x_47, .int (nI (pr.2)), .int (nI sn), .int (nI ((SK g sn sp) + (LT g sn (SK g sn sp) - (SK g sn sp)))), .int wr, .int wa, .int z_299, .int ra, .ref x_54, .ref x_55, .int (nI x_56), .ref x_57, .ref x_58, .ref x_59, .ref x_60, .ref x_61, .ref x_62, .ref x_63, .ref x_64, .ref x_65, .ref x_66, .ref x_67, .int (nI x_68)])) = wrs (S_300 o) from by rw [hS_o]; rfl)
          have hFr := ufs hFr e1 hT_o (by decide) hws
          have hS_o := us e1
          have hte_ : (SK g sn sp) + (LT g sn (SK g sn sp) - (SK g sn sp)) = tke g sn sp := by omega
          have htl := tke_i (g := g) (n := sn) (p := sp) (by omega) (by omega)
          rw [hte_] at hS_o
          refine lv_aload_n hx hb dX12_lineRead_88 rfl (lv_at hl 2 rfl) ?_
          refine lv_iload_n hx hb dX12_lineRead_89 rfl (lv_at hl 1 rfl) ?_
          refine pl_callv (va_runV (As := [.int (nI wz)]) (rest := []) ⟨hx, hb, hml, hown, hT⟩ (f_behind l dC dI cy L kap pr ad S_303 H.size o wz hTy hT_o (by omega) g nm (tke g sn sp) sn wr wa z_299 ra pa ki rs ⟨MKi (sp := (tke g sn sp)) (sn := sn) (pa := pa) (ki := ki) hS_o rfl rfl rfl rfl rfl rfl (by omega) (by omega) (by omega) (by omega), inf_i hS_o rfl, inf_i hS_o rfl, inf_i hS_o rfl, fld_i hS_o rfl hS_x_47, lfd_i hS_o rfl hS_x_41⟩ (by omega) hg df hN0 hN8 mn kf (by rw [fld_i hS_o rfl hS_rs]; exact hsm_) (by rw [fld_i hS_o rfl hS_rs]; exact hdg_) hw0 hf0 hf1 hf2) (cwV 1 hT (gV w1222 w1224 ws61 w14 w1225) rfl rfl rfl (by decide +kernel) ⟨(Nat.le_of_ble_eq_true rfl), (Nat.le_of_ble_eq_true rfl)⟩) ⟨pcS.blind, pl_recv hK hW hT_o.1 hS_o rfl, pcS.pre hW.1 hK hW.2.1 hN hSTR hW.2.2⟩ rfl rfl hl.1 rfl (lv_room (Nat.le_of_ble_eq_true rfl)) dX12_lineRead_90 ⟨(Nat.le_of_ble_eq_true rfl), (Nat.le_of_ble_eq_true rfl)⟩) hW hA0 hA (fun S_304 H locs hrel hW => ?_)
          obtain ⟨hTy, hF1, hx1⟩ := hrel
          have hFr := hFr.tr hF1 (by decide)
          have hS_x_10 := hF1.at hT_x_10 (by decide) hS_x_10
          have hS_x_47 := hF1.at hT_x_47 (by decide) hS_x_47
          obtain ⟨sp305, wr305, wa305, ra305, nm305, pa305, ki305, hM305, hsb305, hER305, hOK305, hdg9_⟩ := hx1
          obtain ⟨x_306, x_307, x_308, x_309, x_310, x_311, x_312, x_313, x_314, x_315, x_316, x_317, x_318, x_319, x_320, x_321, x_322, x_323, x_324, x_325, x_326, x_327, x_328, x_329, x_330, x_331, x_332, x_333, x_334, x_335, x_336, hS_o, hT_x_306, hT_x_307, hT_x_308, hT_x_309, hT_x_310, hb_x_311, hb_x_312, hb_x_313, hT_x_315, hb_q2, hb_x_316, hb_x_317, hT_x_322, hT_x_323, hb_x_324, hT_x_325, hT_x_326, hT_x_327, hT_x_328, hT_x_329, hT_x_330, hT_x_331, hT_x_332, hT_x_333, hT_x_334, hT_x_335, hb_x_336⟩ := hTy.k12 hT_o
          have hb_q2 : pr.2 ≤ 900 := hb_q2
          have hS_o : S_304 o = .inr (12, [.ref x_306, .ref x_307, .ref x_308, .ref x_309, .ref x_310, .int (nI x_311), .int (nI x_312), .int (nI x_313), .int x_314, .ref x_315, .int (nI (pr.2)), .int (nI x_316), .int (nI x_317), .int x_318, .int x_319, .int x_320, .int x_321, .ref x_322, .ref x_323, .int (nI x_324), .ref x_325, .ref x_326, .ref x_327, .ref x_328, .ref x_329, .ref x_330, .ref x_331, .ref x_332, .ref x_333, .ref x_334, .ref x_335, .int (nI x_336)]) := hS_o
          obtain ⟨hMK_, h14_, h15_, h16_, h9_, h3_⟩ := hM305
          obtain ⟨e12_, e11_, e13_, e5_, e6_, e0_⟩ := MKe hMK_ hS_o rfl rfl rfl rfl rfl rfl (by omega) (by omega) (by omega) (by omega)
          subst e12_ e11_ e13_ e5_ e6_ e0_
          have e14_ := h14_.symm.trans (inf_i hS_o rfl)
          subst e14_
          have e15_ := h15_.symm.trans (inf_i hS_o rfl)
          subst e15_
          have e16_ := h16_.symm.trans (inf_i hS_o rfl)
          subst e16_
          obtain ⟨f_337, hS_x_315⟩ := hTy.k55 hT_x_315
          have e9_ := h9_.symm.trans (fld_i hS_o rfl hS_x_315)
          subst e9_
          obtain ⟨f_338, hS_x_309⟩ := hTy.k53 hT_x_309
          have e3_ := h3_.symm.trans (lfd_i hS_o rfl hS_x_309)
          subst e3_
          obtain ⟨f_339, hS_rs, hi_f_339⟩ := hTy.k50 hT_x_1
          have hdg_ : dg f_339 := by have q := hdg9_; rw [fld_i hS_o rfl hS_rs] at q; exact q
          refine lv_aload_n hx hb dX12_lineRead_93 rfl (lv_at hl 2 rfl) ?_
          refine pl_get (ci := 12) (v := .int wr305) (C := RX12) (T := TX12) (N := 32) hx hb hT iX12 hown hK hW hT_o.1 hS_o rfl 13 (by decide) w1095 rfl dX12_lineRead_94 ?_
          refine lv_if_ne (tgt := 118) hx hb dX12_lineRead_97 (by decide) (fun c_97 => ?_) (fun c_97 => ?_)
          · refine lv_aload_n hx hb dX12_lineRead_118 rfl (lv_at hl 2 rfl) ?_
            refine lv_dup hx hb dX12_lineRead_119 rfl ?_
            refine pl_get (ci := 12) (v := .int (nI sp305)) (C := RX12) (T := TX12) (N := 32) hx hb hT iX12 hown hK hW hT_o.1 hS_o rfl 12 (by decide) w1094 rfl dX12_lineRead_120 ?_
            refine lv_iconst (v := 1) hx hb dX12_lineRead_123 (by decide) ?_
            refine lv_iadd hx hb dX12_lineRead_124 ?_
            refine lv_topi (fun z_340 ez_340 => ?_)
            obtain rfl : z_340 = nI (sp305 + 1) := ez_340.trans (nI_add (sp305) (1))
            refine pl_put (ci := 12) (v := .int (nI (sp305 + 1))) (ty := .int) (C := RX12) (T := TX12) (N := 32) (fs' := [.ref rs, .ref x_307, .ref x_308, .ref x_309, .ref x_310, .int (nI pa305), .int (nI ki305), .int (nI x_313), .int x_314, .ref x_315, .int (nI (pr.2)), .int (nI sn), .int (nI (sp305 + 1)), .int wr305, .int wa305, .int z_299, .int ra305, .ref x_322, .ref x_323, .int (nI x_324), .ref x_325, .ref x_326, .ref x_327, .ref x_328, .ref x_329, .ref x_330, .ref x_331, .ref x_332, .ref x_333, .ref x_334, .ref x_335, .int (nI x_336)]) hx hb hT iX12 tyX12 tyX12_ok nmX12 hown hK hW hT_o.1 hS_o rfl 12 (by decide) w1094 rfl (by decide +kernel) rfl rfl (Nat.le_of_ble_eq_true rfl) rfl dX12_lineRead_125 (fun H locs S_341 e1 hW => ?_)
            have hTy := hTy.u12 e1 hT_o ⟨rs, x_307, x_308, x_309, x_310, pa305, ki305, x_313, x_314, x_315, sn, sp305 + 1, wr305, wa305, z_299, ra305, x_322, x_323, x_324, x_325, x_326, x_327, x_328, x_329, x_330, x_331, x_332, x_333, x_334, x_335, x_336, rfl, hT_x_1, hT_x_307, hT_x_308, hT_x_309, hT_x_310, (by omega), (by omega), (by omega), hT_x_315, (by show pr.2 ≤ 900; omega), (by omega), (by omega), hT_x_322, hT_x_323, (by omega), hT_x_325, hT_x_326, hT_x_327, hT_x_328, hT_x_329, hT_x_330, hT_x_331, hT_x_332, hT_x_333, hT_x_334, hT_x_335, (by omega)⟩
            have hS_x_10 := un e1 hT_x_10 hT_o (by decide) hS_x_10
            have hS_x_47 := un e1 hT_x_47 hT_o (by decide) hS_x_47
            have hS_x_315 := un e1 hT_x_315 hT_o (by decide) hS_x_315
            have hS_x_309 := un e1 hT_x_309 hT_o (by decide) hS_x_309
            have hS_rs := un e1 hT_x_1 hT_o (by decide) hS_rs
            have hws := (show wrs (.inr (12, [.ref rs, .ref x_307, .ref x_308, .ref x_309, .ref x_310, .int (nI pa305), .int (nI ki305), .int (nI x_313), .int x_314, .ref x_315, .int (nI (pr.2)), .int (nI sn), .int (nI (sp305 + 1)), .int wr305, .int wa305, .int z_299, .int ra305, .ref x_322, .ref x_323, .int (nI x_324), .ref x_325, .ref x_326, .ref x_327, .ref x_328, .ref x_329, .ref x_330, .ref x_331, .ref x_332, .ref x_333, .ref x_334, .ref x_335, .int (nI x_336)])) = wrs (S_304 o) from by rw [hS_o]; rfl)
            have hFr := ufs hFr e1 hT_o (by decide) hws
            have hS_o := us e1
            exact W.vret hx hb hr (fun t ht h9 => ⟨⟨S_341, rfl, ⟨hTy, hFr, ⟨sp305 + 1, _, _, _, _, _, pa305, ki305, ⟨MKi (sp := (sp305 + 1)) (sn := sn) (pa := pa305) (ki := ki305) hS_o rfl rfl rfl rfl rfl rfl (by omega) (by omega) (by omega) (by omega), inf_i hS_o rfl, inf_i hS_o rfl, inf_i hS_o rfl, fld_i hS_o rfl hS_x_315, lfd_i hS_o rfl hS_x_309⟩, by rw [hEL]; exact ERR_t EB_b hER305 (fun _ => ⟨rfl, rfl⟩) (fun a b => absurd (ERR_z hER305 a b).1 c_97), fun z => by rw [hEL] at z; exact absurd (ERR_z hER305 hw0 (fe_0 z).1).1 c_97, (by rw [fld_i hS_o rfl hS_rs]; exact hdg_)⟩⟩, by rw [ht]; exact hW.1, va_K.moved h9.alike hK, hW.2.1⟩, hW.2.2.F ht⟩) hW.2.2.2.2 dX12_lineRead_128
          · have hbz : (EB g sn df pa ki mn kf wz (tke g sn sp)).1 = 0 := by by_cases q : (EB g sn df pa ki mn kf wz (tke g sn sp)).1 = 0; exact q; exact absurd c_97 (ERR_n hER305 hw0 q EB_b).1
            obtain ⟨hk1, hk2, hk3, hk4, hk5, hk6⟩ := hOK305 hbz
            have hpb9 := PB_i (g := g) (n := sn) (w := wz) (p := tke g sn sp) (by omega) (by omega)
            have hk7 := hk6
            rw [fld_i hS_o rfl hS_rs] at hk7
            refine lv_aload_n hx hb dX12_lineRead_100 rfl (lv_at hl 2 rfl) ?_
            refine pl_calli (va_runV (As := []) (rest := []) ⟨hx, hb, hml, hown, hT⟩ (f_peek l dC dI cy L kap pr S_304 H.size o hTy hT_o g nm305 sp305 sn wr305 wa305 z_299 ra305 pa305 ki305 rs ⟨MKi (sp := sp305) (sn := sn) (pa := pa305) (ki := ki305) hS_o rfl rfl rfl rfl rfl rfl (by omega) (by omega) (by omega) (by omega), inf_i hS_o rfl, inf_i hS_o rfl, inf_i hS_o rfl, fld_i hS_o rfl hS_x_315, lfd_i hS_o rfl hS_x_309⟩ (by omega) hg) (cwV 0 hT (gV w1190 w1192 ws55 w14 w1193) rfl rfl rfl (by decide +kernel) ⟨(Nat.le_of_ble_eq_true rfl), (Nat.le_of_ble_eq_true rfl)⟩) ⟨pcN.blind, pl_recv hK hW hT_o.1 hS_o rfl, pcN.pre hW.1 hK hW.2.1 hN (fun q h => absurd h List.not_mem_nil)⟩ rfl rfl hl.1 rfl (lv_room (Nat.le_of_ble_eq_true rfl)) dX12_lineRead_101 ⟨(Nat.le_of_ble_eq_true rfl), (Nat.le_of_ble_eq_true rfl)⟩) hW hA0 hA (fun r_343 S_342 H locs hrel hW => ?_)
            obtain ⟨hTy, hF1, hx1⟩ := hrel
            have hFr := hFr.tr hF1 (by decide)
            have hS_x_10 := hF1.at hT_x_10 (by decide) hS_x_10
            have hS_x_47 := hF1.at hT_x_47 (by decide) hS_x_47
            have hS_x_315 := hF1.at hT_x_315 (by decide) hS_x_315
            have hS_x_309 := hF1.at hT_x_309 (by decide) hS_x_309
            have hS_rs := hF1.at hT_x_1 (by decide) hS_rs
            have hpk_ := hx1.2
            have hpb_ := SK_le (g := g) (n := sn) (i := sp305) (by omega)
            have hpg_ := SK_ge (g := g) (n := sn) (i := sp305)
            obtain ⟨x_344, x_345, x_346, x_347, x_348, x_349, x_350, x_351, x_352, x_353, x_354, x_355, x_356, x_357, x_358, x_359, x_360, x_361, x_362, x_363, x_364, x_365, x_366, x_367, x_368, x_369, x_370, x_371, x_372, x_373, x_374, hS_o, hT_x_344, hT_x_345, hT_x_346, hT_x_347, hT_x_348, hb_x_349, hb_x_350, hb_x_351, hT_x_353, hb_q2, hb_x_354, hb_x_355, hT_x_360, hT_x_361, hb_x_362, hT_x_363, hT_x_364, hT_x_365, hT_x_366, hT_x_367, hT_x_368, hT_x_369, hT_x_370, hT_x_371, hT_x_372, hT_x_373, hb_x_374⟩ := hTy.k12 hT_o
            have hb_q2 : pr.2 ≤ 900 := hb_q2
            have hS_o : S_342 o = .inr (12, [.ref x_344, .ref x_345, .ref x_346, .ref x_347, .ref x_348, .int (nI x_349), .int (nI x_350), .int (nI x_351), .int x_352, .ref x_353, .int (nI (pr.2)), .int (nI x_354), .int (nI x_355), .int x_356, .int x_357, .int x_358, .int x_359, .ref x_360, .ref x_361, .int (nI x_362), .ref x_363, .ref x_364, .ref x_365, .ref x_366, .ref x_367, .ref x_368, .ref x_369, .ref x_370, .ref x_371, .ref x_372, .ref x_373, .int (nI x_374)]) := hS_o
            obtain ⟨hMK_, h14_, h15_, h16_, h9_, h3_⟩ := hx1.1
            obtain ⟨e12_, e11_, e13_, e5_, e6_, e0_⟩ := MKe hMK_ hS_o rfl rfl rfl rfl rfl rfl (by omega) (by omega) (by omega) (by omega)
            subst e12_ e11_ e13_ e5_ e6_ e0_
            have e14_ := h14_.symm.trans (inf_i hS_o rfl)
            subst e14_
            have e15_ := h15_.symm.trans (inf_i hS_o rfl)
            subst e15_
            have e16_ := h16_.symm.trans (inf_i hS_o rfl)
            subst e16_
            obtain ⟨f_375, hS_x_353⟩ := hTy.k55 hT_x_353
            have e9_ := h9_.symm.trans (fld_i hS_o rfl hS_x_353)
            subst e9_
            obtain ⟨f_376, hS_x_347⟩ := hTy.k53 hT_x_347
            have e3_ := h3_.symm.trans (lfd_i hS_o rfl hS_x_347)
            subst e3_
            refine lv_bipush (v := 59) hx hb dX12_lineRead_104 (by decide) ?_
            have hps := PK_s (g := g) (n := sn) (p := sp305) hg (by omega)
            rw [← hpk_, hk1] at hps
            refine lv_icmp_eq (tgt := 118) hx hb dX12_lineRead_106 (by decide) (fun c_106 => ?_) (fun c_106 => ?_)
            · have hs2 := hps.mp c_106
              have hes : ES g sn (PB g sn wz (tke g sn sp)) = (0, 0) := if_pos hs2
              refine lv_aload_n hx hb dX12_lineRead_118 rfl (lv_at hl 2 rfl) ?_
              refine lv_dup hx hb dX12_lineRead_119 rfl ?_
              refine pl_get (ci := 12) (v := .int (nI (SK g sn sp305))) (C := RX12) (T := TX12) (N := 32) hx hb hT iX12 hown hK hW hT_o.1 hS_o rfl 12 (by decide) w1094 rfl dX12_lineRead_120 ?_
              refine lv_iconst (v := 1) hx hb dX12_lineRead_123 (by decide) ?_
              refine lv_iadd hx hb dX12_lineRead_124 ?_
              refine lv_topi (fun z_377 ez_377 => ?_)
              obtain rfl : z_377 = nI ((SK g sn sp305) + 1) := ez_377.trans (nI_add (SK g sn sp305) (1))
              refine pl_put (ci := 12) (v := .int (nI ((SK g sn sp305) + 1))) (ty := .int) (C := RX12) (T := TX12) (N := 32) (fs' := [.ref rs, .ref x_345, .ref x_346, .ref x_347, .ref x_348, .int (nI pa305), .int (nI ki305), .int (nI x_351), .int x_352, .ref x_353, .int (nI (pr.2)), .int (nI sn), .int (nI ((SK g sn sp305) + 1)), .int wr305, .int wa305, .int z_299, .int ra305, .ref x_360, .ref x_361, .int (nI x_362), .ref x_363, .ref x_364, .ref x_365, .ref x_366, .ref x_367, .ref x_368, .ref x_369, .ref x_370, .ref x_371, .ref x_372, .ref x_373, .int (nI x_374)]) hx hb hT iX12 tyX12 tyX12_ok nmX12 hown hK hW hT_o.1 hS_o rfl 12 (by decide) w1094 rfl (by decide +kernel) rfl rfl (Nat.le_of_ble_eq_true rfl) rfl dX12_lineRead_125 (fun H locs S_378 e1 hW => ?_)
              have hTy := hTy.u12 e1 hT_o ⟨rs, x_345, x_346, x_347, x_348, pa305, ki305, x_351, x_352, x_353, sn, (SK g sn sp305) + 1, wr305, wa305, z_299, ra305, x_360, x_361, x_362, x_363, x_364, x_365, x_366, x_367, x_368, x_369, x_370, x_371, x_372, x_373, x_374, rfl, hT_x_1, hT_x_345, hT_x_346, hT_x_347, hT_x_348, (by omega), (by omega), (by omega), hT_x_353, (by show pr.2 ≤ 900; omega), (by omega), (by omega), hT_x_360, hT_x_361, (by omega), hT_x_363, hT_x_364, hT_x_365, hT_x_366, hT_x_367, hT_x_368, hT_x_369, hT_x_370, hT_x_371, hT_x_372, hT_x_373, (by omega)⟩
              have hS_x_10 := un e1 hT_x_10 hT_o (by decide) hS_x_10
              have hS_x_47 := un e1 hT_x_47 hT_o (by decide) hS_x_47
              have hS_x_315 := un e1 hT_x_315 hT_o (by decide) hS_x_315
              have hS_x_309 := un e1 hT_x_309 hT_o (by decide) hS_x_309
              have hS_rs := un e1 hT_x_1 hT_o (by decide) hS_rs
              have hS_x_353 := un e1 hT_x_353 hT_o (by decide) hS_x_353
              have hS_x_347 := un e1 hT_x_347 hT_o (by decide) hS_x_347
              have hws := (show wrs (.inr (12, [.ref rs, .ref x_345, .ref x_346, .ref x_347, .ref x_348, .int (nI pa305), .int (nI ki305), .int (nI x_351), .int x_352, .ref x_353, .int (nI (pr.2)), .int (nI sn), .int (nI ((SK g sn sp305) + 1)), .int wr305, .int wa305, .int z_299, .int ra305, .ref x_360, .ref x_361, .int (nI x_362), .ref x_363, .ref x_364, .ref x_365, .ref x_366, .ref x_367, .ref x_368, .ref x_369, .ref x_370, .ref x_371, .ref x_372, .ref x_373, .int (nI x_374)])) = wrs (S_342 o) from by rw [hS_o]; rfl)
              have hFr := ufs hFr e1 hT_o (by decide) hws
              have hS_o := us e1
              exact W.vret hx hb hr (fun t ht h9 => ⟨⟨S_378, rfl, ⟨hTy, hFr, ⟨(SK g sn sp305) + 1, _, _, _, _, _, pa305, ki305, ⟨MKi (sp := ((SK g sn sp305) + 1)) (sn := sn) (pa := pa305) (ki := ki305) hS_o rfl rfl rfl rfl rfl rfl (by omega) (by omega) (by omega) (by omega), inf_i hS_o rfl, inf_i hS_o rfl, inf_i hS_o rfl, fld_i hS_o rfl hS_x_353, lfd_i hS_o rfl hS_x_347⟩, by rw [hEL, hes]; exact ERR_t EB_b hER305 (fun a => absurd c_97 a) (fun _ _ => ERR_0), fun _ => ⟨by rw [PLn, hcw, tk2_e hs2, hk1], by rw [hk1]; have q := tke_i (g := g) hpb9.2 (by omega); rw [tk2_e hs2] at q; omega, by rw [hcw]; exact hk2, by rw [hcw]; exact hk3, by rw [hcw]; exact hk4, by rw [hcw]; exact hk5, by rw [hcw]; exact (by rw [fld_i hS_o rfl hS_rs]; exact hk7), by rw [hcw]; exact hmd⟩, (by rw [fld_i hS_o rfl hS_rs]; exact hdg_)⟩⟩, by rw [ht]; exact hW.1, va_K.moved h9.alike hK, hW.2.1⟩, hW.2.2.F ht⟩) hW.2.2.2.2 dX12_lineRead_128
            · have hes : ES g sn (PB g sn wz (tke g sn sp)) = (1, SK g sn (PB g sn wz (tke g sn sp))) := if_neg (fun z => c_106 (hps.mpr z))
              refine lv_aload_n hx hb dX12_lineRead_109 rfl (lv_at hl 2 rfl) ?_
              refine lv_iconst (v := 1) hx hb dX12_lineRead_110 (by decide) ?_
              refine lv_aload_n hx hb dX12_lineRead_111 rfl (lv_at hl 2 rfl) ?_
              refine pl_get (ci := 12) (v := .int (nI (SK g sn sp305))) (C := RX12) (T := TX12) (N := 32) hx hb hT iX12 hown hK hW hT_o.1 hS_o rfl 12 (by decide) w1094 rfl dX12_lineRead_112 ?_
              refine pl_callv (va_runV (As := [.int 1, .int (nI (SK g sn sp305))]) (rest := []) ⟨hx, hb, hml, hown, hT⟩ (f_fails l dC dI cy L kap pr S_342 H.size o 1 (nI (SK g sn sp305)) hTy hT_o g nm305 (SK g sn sp305) sn wr305 wa305 z_299 ra305 pa305 ki305 rs ⟨MKi (sp := (SK g sn sp305)) (sn := sn) (pa := pa305) (ki := ki305) hS_o rfl rfl rfl rfl rfl rfl (by omega) (by omega) (by omega) (by omega), inf_i hS_o rfl, inf_i hS_o rfl, inf_i hS_o rfl, fld_i hS_o rfl hS_x_353, lfd_i hS_o rfl hS_x_347⟩ (by omega) hg) (cwV 2 hT (gV w1214 w1216 ws59 w14 w1217) rfl rfl rfl (by decide +kernel) ⟨(Nat.le_of_ble_eq_true rfl), (Nat.le_of_ble_eq_true rfl)⟩) ⟨pcN.blind, pl_recv hK hW hT_o.1 hS_o rfl, pcN.pre hW.1 hK hW.2.1 hN (fun q h => absurd h List.not_mem_nil)⟩ rfl rfl hl.1 rfl (lv_room (Nat.le_of_ble_eq_true rfl)) dX12_lineRead_115 ⟨(Nat.le_of_ble_eq_true rfl), (Nat.le_of_ble_eq_true rfl)⟩) hW hA0 hA (fun S_379 H locs hrel hW => ?_)
              obtain ⟨hTy, hF1, hx1⟩ := hrel
              have hFr := hFr.tr hF1 (by decide)
              have hS_x_10 := hF1.at hT_x_10 (by decide) hS_x_10
              have hS_x_47 := hF1.at hT_x_47 (by decide) hS_x_47
              have hS_x_315 := hF1.at hT_x_315 (by decide) hS_x_315
              have hS_x_309 := hF1.at hT_x_309 (by decide) hS_x_309
              have hS_rs := hF1.at hT_x_1 (by decide) hS_rs
              have hS_x_353 := hF1.at hT_x_353 (by decide) hS_x_353
              have hS_x_347 := hF1.at hT_x_347 (by decide) hS_x_347
              obtain ⟨wr380, wa380, hM380, hfa380, hfb380⟩ := hx1
              obtain ⟨x_381, x_382, x_383, x_384, x_385, x_386, x_387, x_388, x_389, x_390, x_391, x_392, x_393, x_394, x_395, x_396, x_397, x_398, x_399, x_400, x_401, x_402, x_403, x_404, x_405, x_406, x_407, x_408, x_409, x_410, x_411, hS_o, hT_x_381, hT_x_382, hT_x_383, hT_x_384, hT_x_385, hb_x_386, hb_x_387, hb_x_388, hT_x_390, hb_q2, hb_x_391, hb_x_392, hT_x_397, hT_x_398, hb_x_399, hT_x_400, hT_x_401, hT_x_402, hT_x_403, hT_x_404, hT_x_405, hT_x_406, hT_x_407, hT_x_408, hT_x_409, hT_x_410, hb_x_411⟩ := hTy.k12 hT_o
              have hb_q2 : pr.2 ≤ 900 := hb_q2
              have hS_o : S_379 o = .inr (12, [.ref x_381, .ref x_382, .ref x_383, .ref x_384, .ref x_385, .int (nI x_386), .int (nI x_387), .int (nI x_388), .int x_389, .ref x_390, .int (nI (pr.2)), .int (nI x_391), .int (nI x_392), .int x_393, .int x_394, .int x_395, .int x_396, .ref x_397, .ref x_398, .int (nI x_399), .ref x_400, .ref x_401, .ref x_402, .ref x_403, .ref x_404, .ref x_405, .ref x_406, .ref x_407, .ref x_408, .ref x_409, .ref x_410, .int (nI x_411)]) := hS_o
              obtain ⟨hMK_, h14_, h15_, h16_, h9_, h3_⟩ := hM380
              obtain ⟨e12_, e11_, e13_, e5_, e6_, e0_⟩ := MKe hMK_ hS_o rfl rfl rfl rfl rfl rfl (by omega) (by omega) (by omega) (by omega)
              subst e12_ e11_ e13_ e5_ e6_ e0_
              have e14_ := h14_.symm.trans (inf_i hS_o rfl)
              subst e14_
              have e15_ := h15_.symm.trans (inf_i hS_o rfl)
              subst e15_
              have e16_ := h16_.symm.trans (inf_i hS_o rfl)
              subst e16_
              obtain ⟨f_412, hS_x_390⟩ := hTy.k55 hT_x_390
              have e9_ := h9_.symm.trans (fld_i hS_o rfl hS_x_390)
              subst e9_
              obtain ⟨f_413, hS_x_384⟩ := hTy.k53 hT_x_384
              have e3_ := h3_.symm.trans (lfd_i hS_o rfl hS_x_384)
              subst e3_
              refine lv_aload_n hx hb dX12_lineRead_118 rfl (lv_at hl 2 rfl) ?_
              refine lv_dup hx hb dX12_lineRead_119 rfl ?_
              refine pl_get (ci := 12) (v := .int (nI (SK g sn sp305))) (C := RX12) (T := TX12) (N := 32) hx hb hT iX12 hown hK hW hT_o.1 hS_o rfl 12 (by decide) w1094 rfl dX12_lineRead_120 ?_
              refine lv_iconst (v := 1) hx hb dX12_lineRead_123 (by decide) ?_
              refine lv_iadd hx hb dX12_lineRead_124 ?_
              refine lv_topi (fun z_414 ez_414 => ?_)
              obtain rfl : z_414 = nI ((SK g sn sp305) + 1) := ez_414.trans (nI_add (SK g sn sp305) (1))
              refine pl_put (ci := 12) (v := .int (nI ((SK g sn sp305) + 1))) (ty := .int) (C := RX12) (T := TX12) (N := 32) (fs' := [.ref rs, .ref x_382, .ref x_383, .ref x_384, .ref x_385, .int (nI pa305), .int (nI ki305), .int (nI x_388), .int x_389, .ref x_390, .int (nI (pr.2)), .int (nI sn), .int (nI ((SK g sn sp305) + 1)), .int wr380, .int wa380, .int z_299, .int ra305, .ref x_397, .ref x_398, .int (nI x_399), .ref x_400, .ref x_401, .ref x_402, .ref x_403, .ref x_404, .ref x_405, .ref x_406, .ref x_407, .ref x_408, .ref x_409, .ref x_410, .int (nI x_411)]) hx hb hT iX12 tyX12 tyX12_ok nmX12 hown hK hW hT_o.1 hS_o rfl 12 (by decide) w1094 rfl (by decide +kernel) rfl rfl (Nat.le_of_ble_eq_true rfl) rfl dX12_lineRead_125 (fun H locs S_415 e1 hW => ?_)
              have hTy := hTy.u12 e1 hT_o ⟨rs, x_382, x_383, x_384, x_385, pa305, ki305, x_388, x_389, x_390, sn, (SK g sn sp305) + 1, wr380, wa380, z_299, ra305, x_397, x_398, x_399, x_400, x_401, x_402, x_403, x_404, x_405, x_406, x_407, x_408, x_409, x_410, x_411, rfl, hT_x_1, hT_x_382, hT_x_383, hT_x_384, hT_x_385, (by omega), (by omega), (by omega), hT_x_390, (by show pr.2 ≤ 900; omega), (by omega), (by omega), hT_x_397, hT_x_398, (by omega), hT_x_400, hT_x_401, hT_x_402, hT_x_403, hT_x_404, hT_x_405, hT_x_406, hT_x_407, hT_x_408, hT_x_409, hT_x_410, (by omega)⟩
              have hS_x_10 := un e1 hT_x_10 hT_o (by decide) hS_x_10
              have hS_x_47 := un e1 hT_x_47 hT_o (by decide) hS_x_47
              have hS_x_315 := un e1 hT_x_315 hT_o (by decide) hS_x_315
              have hS_x_309 := un e1 hT_x_309 hT_o (by decide) hS_x_309
              have hS_rs := un e1 hT_x_1 hT_o (by decide) hS_rs
              have hS_x_353 := un e1 hT_x_353 hT_o (by decide) hS_x_353
              have hS_x_347 := un e1 hT_x_347 hT_o (by decide) hS_x_347
              have hS_x_390 := un e1 hT_x_390 hT_o (by decide) hS_x_390
              have hS_x_384 := un e1 hT_x_384 hT_o (by decide) hS_x_384
              have hws := (show wrs (.inr (12, [.ref rs, .ref x_382, .ref x_383, .ref x_384, .ref x_385, .int (nI pa305), .int (nI ki305), .int (nI x_388), .int x_389, .ref x_390, .int (nI (pr.2)), .int (nI sn), .int (nI ((SK g sn sp305) + 1)), .int wr380, .int wa380, .int z_299, .int ra305, .ref x_397, .ref x_398, .int (nI x_399), .ref x_400, .ref x_401, .ref x_402, .ref x_403, .ref x_404, .ref x_405, .ref x_406, .ref x_407, .ref x_408, .ref x_409, .ref x_410, .int (nI x_411)])) = wrs (S_379 o) from by rw [hS_o]; rfl)
              have hFr := ufs hFr e1 hT_o (by decide) hws
              have hS_o := us e1
              exact W.vret hx hb hr (fun t ht h9 => ⟨⟨S_415, rfl, ⟨hTy, hFr, ⟨(SK g sn sp305) + 1, _, _, _, _, _, pa305, ki305, ⟨MKi (sp := ((SK g sn sp305) + 1)) (sn := sn) (pa := pa305) (ki := ki305) hS_o rfl rfl rfl rfl rfl rfl (by omega) (by omega) (by omega) (by omega), inf_i hS_o rfl, inf_i hS_o rfl, inf_i hS_o rfl, fld_i hS_o rfl hS_x_390, lfd_i hS_o rfl hS_x_384⟩, by rw [hEL, hes]; exact ERR_t EB_b hER305 (fun a => absurd c_97 a) (fun _ _ => ERR_e c_97 (show (1 : Nat) ≠ 0 from by decide) (by have q := hfb380 c_97; rw [hk1] at q; exact q)), fun z => by rw [hEL, hes] at z; exact absurd (show (1 : Nat) = 0 from (fe_0 z).2) (by decide), (by rw [fld_i hS_o rfl hS_rs]; exact hdg_)⟩⟩, by rw [ht]; exact hW.1, va_K.moved h9.alike hK, hW.2.1⟩, hW.2.2.F ht⟩) hW.2.2.2.2 dX12_lineRead_128
      · have hEL := EL_1 (df := df) (np := pa) (nk := ki) (mn := mn) (kf := kf) (md := bt sen 5) hcl c_17 (sb_t (p := 5) (by omega) ez_260 ez_261 c_29)
        refine lv_aload_n hx hb dX12_lineRead_32 rfl (lv_at hl 2 rfl) ?_
        refine lv_iconst (v := 1) hx hb dX12_lineRead_33 (by decide) ?_
        refine lv_iload_n hx hb dX12_lineRead_34 rfl (lv_at hl 0 rfl) ?_
        refine pl_callv (va_runV (As := [.int 1, .int (nI (SK g sn sp))]) (rest := []) ⟨hx, hb, hml, hown, hT⟩ (f_fails l dC dI cy L kap pr S_35 H.size o 1 (nI (SK g sn sp)) hTy hT_o g nm (SK g sn sp) sn wr wa sen ra pa ki rs ⟨MKi (sp := (SK g sn sp)) (sn := sn) (pa := pa) (ki := ki) hS_o rfl rfl rfl rfl rfl rfl (by omega) (by omega) (by omega) (by omega), inf_i hS_o rfl, inf_i hS_o rfl, inf_i hS_o rfl, fld_i hS_o rfl hS_x_47, lfd_i hS_o rfl hS_x_41⟩ (by omega) hg) (cwV 2 hT (gV w1214 w1216 ws59 w14 w1217) rfl rfl rfl (by decide +kernel) ⟨(Nat.le_of_ble_eq_true rfl), (Nat.le_of_ble_eq_true rfl)⟩) ⟨pcN.blind, pl_recv hK hW hT_o.1 hS_o rfl, pcN.pre hW.1 hK hW.2.1 hN (fun q h => absurd h List.not_mem_nil)⟩ rfl rfl hl.1 rfl (lv_room (Nat.le_of_ble_eq_true rfl)) dX12_lineRead_35 ⟨(Nat.le_of_ble_eq_true rfl), (Nat.le_of_ble_eq_true rfl)⟩) hW hA0 hA (fun S_416 H locs hrel hW => ?_)
        obtain ⟨hTy, hF1, hx1⟩ := hrel
        have hFr := hFr.tr hF1 (by decide)
        have hS_x_10 := hF1.at hT_x_10 (by decide) hS_x_10
        have hS_x_4 := hF1.at hT_x_4 (by decide) hS_x_4
        have hS_rs := hF1.at hT_x_1 (by decide) hS_rs
        have hS_x_47 := hF1.at hT_x_47 (by decide) hS_x_47
        have hS_x_41 := hF1.at hT_x_41 (by decide) hS_x_41
        obtain ⟨wr417, wa417, hM417, hfa417, hfb417⟩ := hx1
        obtain ⟨x_418, x_419, x_420, x_421, x_422, x_423, x_424, x_425, x_426, x_427, x_428, x_429, x_430, x_431, x_432, x_433, x_434, x_435, x_436, x_437, x_438, x_439, x_440, x_441, x_442, x_443, x_444, x_445, x_446, x_447, x_448, hS_o, hT_x_418, hT_x_419, hT_x_420, hT_x_421, hT_x_422, hb_x_423, hb_x_424, hb_x_425, hT_x_427, hb_q2, hb_x_428, hb_x_429, hT_x_434, hT_x_435, hb_x_436, hT_x_437, hT_x_438, hT_x_439, hT_x_440, hT_x_441, hT_x_442, hT_x_443, hT_x_444, hT_x_445, hT_x_446, hT_x_447, hb_x_448⟩ := hTy.k12 hT_o
        have hb_q2 : pr.2 ≤ 900 := hb_q2
        have hS_o : S_416 o = .inr (12, [.ref x_418, .ref x_419, .ref x_420, .ref x_421, .ref x_422, .int (nI x_423), .int (nI x_424), .int (nI x_425), .int x_426, .ref x_427, .int (nI (pr.2)), .int (nI x_428), .int (nI x_429), .int x_430, .int x_431, .int x_432, .int x_433, .ref x_434, .ref x_435, .int (nI x_436), .ref x_437, .ref x_438, .ref x_439, .ref x_440, .ref x_441, .ref x_442, .ref x_443, .ref x_444, .ref x_445, .ref x_446, .ref x_447, .int (nI x_448)]) := hS_o
        obtain ⟨hMK_, h14_, h15_, h16_, h9_, h3_⟩ := hM417
        obtain ⟨e12_, e11_, e13_, e5_, e6_, e0_⟩ := MKe hMK_ hS_o rfl rfl rfl rfl rfl rfl (by omega) (by omega) (by omega) (by omega)
        subst e12_ e11_ e13_ e5_ e6_ e0_
        have e14_ := h14_.symm.trans (inf_i hS_o rfl)
        subst e14_
        have e15_ := h15_.symm.trans (inf_i hS_o rfl)
        subst e15_
        have e16_ := h16_.symm.trans (inf_i hS_o rfl)
        subst e16_
        obtain ⟨f_449, hS_x_427⟩ := hTy.k55 hT_x_427
        have e9_ := h9_.symm.trans (fld_i hS_o rfl hS_x_427)
        subst e9_
        obtain ⟨f_450, hS_x_421⟩ := hTy.k53 hT_x_421
        have e3_ := h3_.symm.trans (lfd_i hS_o rfl hS_x_421)
        subst e3_
        refine lv_goto (tgt := 55) hx hb dX12_lineRead_38 (by decide) ?_
        refine lv_aload_n hx hb dX12_lineRead_55 rfl (lv_at hl 2 rfl) ?_
        refine pl_get (ci := 12) (v := .int wr417) (C := RX12) (T := TX12) (N := 32) hx hb hT iX12 hown hK hW hT_o.1 hS_o rfl 13 (by decide) w1095 rfl dX12_lineRead_56 ?_
        refine lv_if_eq (tgt := 63) hx hb dX12_lineRead_59 (by decide) (fun h => absurd h (by rw [(hfb417 hw0).1]; decide)) (fun _ => ?_)
        exact W.vret hx hb hr (fun t ht h9 => ⟨⟨S_416, rfl, ⟨hTy, hFr, ⟨SK g sn sp, _, _, _, _, _, pa, ki, ⟨MKi (sp := (SK g sn sp)) (sn := sn) (pa := pa) (ki := ki) hS_o rfl rfl rfl rfl rfl rfl (by omega) (by omega) (by omega) (by omega), inf_i hS_o rfl, inf_i hS_o rfl, inf_i hS_o rfl, fld_i hS_o rfl hS_x_427, lfd_i hS_o rfl hS_x_421⟩, by rw [hEL]; exact ERR_e hw0 (show (1 : Nat) ≠ 0 from by decide) (hfb417 hw0), fun z => by rw [hEL] at z; exact absurd (show (1 : Nat) = 0 from z) (by decide), (by rw [fld_i hS_o rfl hS_rs]; exact hdg_)⟩⟩, by rw [ht]; exact hW.1, va_K.moved h9.alike hK, hW.2.1⟩, hW.2.2.F ht⟩) hW.2.2.2.2 dX12_lineRead_62

