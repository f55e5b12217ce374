/-! numbers and names as the reference reads them -/
def nbc (g : Nat → Int32) (n p : Nat) (lo hi : Int32) : Nat := if tkc g n p = 3 then (if tke g n p - SK g n p ≤ 8 ∧ lo ≤ nI (NV g (SK g n p) (tke g n p - SK g n p)) ∧ nI (NV g (SK g n p) (tke g n p - SK g n p)) ≤ hi then 0 else 2) else 1
def nmc (g : Nat → Int32) (n p : Nat) : Nat := if tkc g n p = 4 then 0 else 1
theorem nmc_b {g : Nat → Int32} {n p : Nat} : nmc g n p < 100 := by unfold nmc; split <;> omega
theorem nbc_b {g : Nat → Int32} {n p : Nat} {lo hi : Int32} : nbc g n p lo hi < 100 := by unfold nbc; split <;> (try split) <;> omega
section NB
variable {g : Nat → Int32} {n p : Nat} {lo hi wr wa wr' wa' : Int32} {c q : Nat}
theorem SK_id (hp : p ≤ n) (hn : n ≤ 1000) : SK g n (SK g n p) = SK g n p := by
  have h1 := SK_le (g := g) hp
  refine SK_s (Nat.le_refl _) (by omega) (fun k a b => by omega) ?_
  intro z
  have e := adv_en (P := PS g n) (n := n) (fun k hk z => by have z := of_decide_eq_true z; omega) 2000 p (by omega)
  exact e (decide_eq_true z)
theorem tk_id (hp : p ≤ n) (hn : n ≤ 1000) : tkc g n (SK g n p) = tkc g n p ∧ tke g n (SK g n p) = tke g n p := by
  unfold tkc tke
  rw [SK_id hp hn]
  exact ⟨rfl, rfl⟩
theorem tk3_n (hg : BR g) (hn : n ≤ 900) (h : ¬ isD (PK g n p) = true) : tkc g n p ≠ 3 := by
  rw [PK_D hg hn] at h
  by_cases h1 : SK g n p < n
  · by_cases hl : isL (g (SK g n p)) = true
    · rcases wdx_c g (SK g n p) (LT g n (SK g n p) - SK g n p) with ⟨-, hk⟩ | ⟨hw, hk⟩
      · rw [(tk_name h1 hl hk).1]
        split <;> omega
      · rw [(tk_word h1 hl hw hk).1]
        omega
    · rw [(tk_sign h1 hl (fun z => h ⟨h1, z⟩)).1]
      split <;> omega
  · rw [(tk_end h1).1]
    omega
theorem tk3_y (hg : BR g) (hn : n ≤ 900) (h : isD (PK g n p) = true) : SK g n p < n ∧ tkc g n p = 3 ∧ tke g n p = DT g n (SK g n p) := by
  rw [PK_D hg hn] at h
  have hl : ¬ isL (g (SK g n p)) = true := fun z => LD_x z h.2
  exact ⟨h.1, tk_num h.1 hl h.2⟩
theorem tk4_n (hg : BR g) (hn : n ≤ 900) (h : ¬ isL (PK g n p) = true) : tkc g n p ≠ 4 := by
  rw [PK_L hg hn] at h
  by_cases h1 : SK g n p < n
  · have hl : ¬ isL (g (SK g n p)) = true := fun z => h ⟨h1, z⟩
    by_cases hd : isD (g (SK g n p)) = true
    · rw [(tk_num h1 hl hd).1]
      omega
    · rw [(tk_sign h1 hl hd).1]
      split <;> omega
  · rw [(tk_end h1).1]
    omega
theorem tk4_l (hg : BR g) (hn : n ≤ 900) (h : isL (PK g n p) = true) (hl : 8 < LT g n (SK g n p) - SK g n p) : tkc g n p ≠ 4 := by
  rw [PK_L hg hn] at h
  rcases wdx_c g (SK g n p) (LT g n (SK g n p) - SK g n p) with ⟨-, hk⟩ | ⟨hw, hk⟩
  · rw [(tk_name h.1 h.2 hk).1, if_neg (by omega)]
    omega
  · rw [(tk_word h.1 h.2 hw hk).1]
    omega
theorem tk4_w (hg : BR g) (hn : n ≤ 900) (h : isL (PK g n p) = true) (hw : WR g n p ≠ -1) : tkc g n p ≠ 4 := by
  intro z
  apply hw
  unfold WR
  rw [z, if_neg (by omega)]
theorem tk4_y (hg : BR g) (hn : n ≤ 900) (h : isL (PK g n p) = true) (hl : LT g n (SK g n p) - SK g n p ≤ 8) (hw : WR g n p = -1) : SK g n p < n ∧ tkc g n p = 4 ∧ tke g n p = LT g n (SK g n p) := by
  rw [PK_L hg hn] at h
  rcases wdx_c g (SK g n p) (LT g n (SK g n p) - SK g n p) with ⟨-, hk⟩ | ⟨hw2, hk⟩
  · obtain ⟨e1, e2⟩ := tk_name h.1 h.2 hk
    rw [if_pos hl] at e1
    exact ⟨h.1, e1, e2⟩
  · rw [WR_w h.1 h.2 hw2 hk] at hw
    exact absurd hw (nI_neg (by omega)).1
theorem nbc_1 (h : tkc g n p ≠ 3) : nbc g n p lo hi = 1 := if_neg h
theorem nbc_2 (h : tkc g n p = 3) (h2 : ¬ (tke g n p - SK g n p ≤ 8 ∧ lo ≤ nI (NV g (SK g n p) (tke g n p - SK g n p)) ∧ nI (NV g (SK g n p) (tke g n p - SK g n p)) ≤ hi)) : nbc g n p lo hi = 2 := by
  unfold nbc
  rw [if_pos h, if_neg h2]
theorem nbc_0 (h : tkc g n p = 3) (h2 : tke g n p - SK g n p ≤ 8 ∧ lo ≤ nI (NV g (SK g n p) (tke g n p - SK g n p)) ∧ nI (NV g (SK g n p) (tke g n p - SK g n p)) ≤ hi) : nbc g n p lo hi = 0 := by
  unfold nbc
  rw [if_pos h, if_pos h2]
theorem ERR_e (h0 : wr = 0) (hc : c ≠ 0) (e : wr' = nI c ∧ wa' = nI q) : ERR wr wa c q wr' wa' := ⟨fun z => absurd h0 z, fun _ => ⟨e.1, fun _ => e.2, fun z => absurd z hc⟩⟩
theorem ERR_k (h : wr ≠ 0) : ERR wr wa c q wr wa := ⟨fun _ => ⟨rfl, rfl⟩, fun z => absurd z h⟩
end NB
theorem nv_s {g : Nat → Int32} {q l : Nat} {vl y z1 z2 z3 : Int32} (hv : vl = nI (NV g q l)) (hy : y = g (q + l)) (hd : isD y = true) (e1 : z1 = 10 * vl) (e2 : z2 = z1 + y) (e3 : z3 = z2 - 48) : z3 = nI (NV g q (l + 1)) := by
  have hb := isD_b hd
  have hyn : y = nI y.toInt.toNat := by
    apply Int32.toInt_inj.mp
    rw [nI_toInt (by omega)]
    omega
  have e10 : (10 : Int32) = nI 10 := rfl
  have e48 : (48 : Int32) = nI 48 := rfl
  rw [e3, e2, e1, hv, hyn, e10, e48, pk_mul, nI_add, pk_sub (by omega)]
  show nI _ = nI (10 * NV g q l + ((g (q + l)).toInt.toNat - 48))
  rw [← hy]
  exact congrArg nI (by omega)
/-- a name's number -/
def encI (g : Nat → Int32) (a : Nat) : Nat → Int64
  | 0 => 0
  | l + 1 => (encI g a l <<< ((8 : Int32).toInt64 &&& 63)) ||| (g (a + l)).toInt64

theorem in_6 {v lo hi : Int32} {z z1 z2 : Int64} (h0 : z = v.toInt64) (h1 : z1 = lo.toInt64) (h2 : z2 = hi.toInt64) : (z1 ≤ z ∧ z ≤ z2) ↔ (lo ≤ v ∧ v ≤ hi) := by
  subst h0 h1 h2
  rw [Int64.le_iff_toInt_le, Int64.le_iff_toInt_le, Int32.toInt_toInt64, Int32.toInt_toInt64, Int32.toInt_toInt64, Int32.le_iff_toInt_le, Int32.le_iff_toInt_le]
set_option maxHeartbeats 4000000 in
set_option maxRecDepth 100000 in
theorem f_numeral (l : Launch) (dC : Nat → ClassId) (dI : Nat → Nat → Nat) (cy : Nat → ClassId) (L : List Nat) (kap : Nat → Nat) (pr : Pr) (S : Nat → va_E) (sz : Nat) (o : Nat) (lo : Int32) (hi : Int32) (hTy : Ty cy L kap pr S) (hT_o : TK L kap o 12) (g : Nat → Int32) (nm : Nat → Int64) (sp : Nat) (sn : Nat) (wr : Int32) (wa : Int32) (sen : Int32) (ra : Int32) (pa : Nat) (ki : Nat) (rs : Nat) (hM : MF S o g nm sp sn wr wa sen ra pa ki rs) (hsp : sp ≤ sn) (hg : BR g) : Met l yX12_numeral (wT yX12_numeral cX12_numeral 4 (some .int)) ({ frames := 2, cells := 0, slots := 0, locals := 45 }) (pcN dC dI [.ref o, .int lo, .int hi] sz (va_pl L S) (cyT cy) NLs []) (va_Qi (fun r S' => Ty cy L kap pr S' ∧ Fr kap [12, 112] S S' ∧ (∃ sp' wr' wa' ra', MF S' o g nm sp' sn wr' wa' sen ra' pa ki rs ∧ sp' ≤ sn ∧ ERR wr wa (nbc g sn sp lo hi) (SK g sn sp) wr' wa' ∧ (wr = 0 → nbc g sn sp lo hi = 0 → sp' = tke g sn sp ∧ ra' = nI (SK g sn sp) ∧ r = nI (NV g (SK g sn sp) (tke g sn sp - SK g sn sp))))) (fun S' t => pB dC dI (AL L sz) (va_pl L S') (cyT cy) t) (AL L sz)) 0 0 (AL L sz) := by
  refine Met.ofW (cc := cX12_numeral) (maxL := 4) (ret := (some .int)) (by decide) rfl ?_
  intro p e s m args below meth c s₁ B hml hv
  obtain ⟨rfl, hsz, hP, hK, hD0, hN, -⟩ := hv
  have hx := B.exec
  have hb := B.bytes
  have hr := B.returns
  have hT : ∀ wd ∈ TB, wd.before [.ref o, .int lo, .int hi].toArray s = true := fun wd h => atoms_spec (ws := wT yX12_numeral cX12_numeral 4 (some .int)) B.pre wd (List.mem_cons_of_mem _ h)
  have hown : s.vm.findClass RX12 = some m.cls := findClass_of_methodNamed B.named
  have hlocks := B.notSynchronized
  subst hsz
  have hW : PW dC dI L (AL L s.heap.size) s.heap S s.heap [] := ⟨hP, pl_self hD0, va_S.rf⟩
  have hA0 : ∀ q, q ∈ L → AL L s.heap.size q := fun _ h => Or.inl h
  have hA : ∀ q, s.heap.size ≤ q → AL L s.heap.size q := fun _ h => Or.inr h
  have hFr : Fr kap [12, 112] S S := Fr.rf
  have hl := lv_entry ([.ref o, .int lo, .int hi]) (n := 4) (Nat.le_of_ble_eq_true rfl)
  rw [lg_entry_eq]
  generalize (lg_sl ([.ref o, .int lo, .int hi]) ++ List.replicate (4 - (lg_sl ([.ref o, .int lo, .int hi])).length) Slot.unset).toArray = ls at hl ⊢
  have hl : lv_has ls 4 [(0, .ref o), (1, .int lo), (2, .int hi)] := hl
  obtain ⟨x_1, x_2, x_3, x_4, x_5, x_6, x_7, x_8, x_9, x_10, x_11, x_12, x_13, x_14, x_15, x_16, x_17, x_18, x_19, x_20, x_21, x_22, x_23, x_24, x_25, x_26, x_27, x_28, x_29, x_30, x_31, hS_o, hT_x_1, hT_x_2, hT_x_3, hT_x_4, hT_x_5, hb_x_6, hb_x_7, hb_x_8, hT_x_10, hb_q2, hb_x_11, hb_x_12, hT_x_17, hT_x_18, hb_x_19, hT_x_20, hT_x_21, hT_x_22, hT_x_23, hT_x_24, hT_x_25, hT_x_26, hT_x_27, hT_x_28, hT_x_29, hT_x_30, hb_x_31⟩ := hTy.k12 hT_o
  have hb_q2 : pr.2 ≤ 900 := hb_q2
  have hS_o : S o = .inr (12, [.ref x_1, .ref x_2, .ref x_3, .ref x_4, .ref x_5, .int (nI x_6), .int (nI x_7), .int (nI x_8), .int x_9, .ref x_10, .int (nI (pr.2)), .int (nI x_11), .int (nI x_12), .int x_13, .int x_14, .int x_15, .int x_16, .ref x_17, .ref x_18, .int (nI x_19), .ref x_20, .ref x_21, .ref x_22, .ref x_23, .ref x_24, .ref x_25, .ref x_26, .ref x_27, .ref x_28, .ref x_29, .ref x_30, .int (nI x_31)]) := hS_o
  obtain ⟨hMK_, h14_, h15_, h16_, h9_, h3_⟩ := hM
  obtain ⟨e12_, e11_, e13_, e5_, e6_, e0_⟩ := MKe hMK_ hS_o rfl rfl rfl rfl rfl rfl (by omega) (by omega) (by omega) (by omega)
  subst e12_ e11_ e13_ e5_ e6_ e0_
  have e14_ := h14_.symm.trans (inf_i hS_o rfl)
  subst e14_
  have e15_ := h15_.symm.trans (inf_i hS_o rfl)
  subst e15_
  have e16_ := h16_.symm.trans (inf_i hS_o rfl)
  subst e16_
  obtain ⟨f_32, hS_x_10⟩ := hTy.k55 hT_x_10
  have e9_ := h9_.symm.trans (fld_i hS_o rfl hS_x_10)
  subst e9_
  obtain ⟨f_33, hS_x_4⟩ := hTy.k53 hT_x_4
  have e3_ := h3_.symm.trans (lfd_i hS_o rfl hS_x_4)
  subst e3_
  refine lv_aload_n hx hb dX12_numeral_0 rfl (lv_at hl 0 rfl) ?_
  refine pl_get (ci := 12) (v := .int wr) (C := RX12) (T := TX12) (N := 32) hx hb hT iX12 hown hK hW hT_o.1 hS_o rfl 13 (by decide) w1095 rfl dX12_numeral_1 ?_
  refine lv_if_eq (tgt := 9) hx hb dX12_numeral_4 (by decide) (fun c_4 => ?_) (fun c_4 => ?_)
  · refine lv_aload_n hx hb dX12_numeral_9 rfl (lv_at hl 0 rfl) ?_
    refine pl_calli (va_runV (As := []) (rest := []) ⟨hx, hb, hml, hown, hT⟩ (f_peek l dC dI cy L kap pr S s.heap.size o hTy hT_o g nm sp sn wr wa sen ra pa ki rs ⟨MKi (sp := sp) (sn := sn) (pa := pa) (ki := ki) hS_o rfl rfl rfl rfl rfl rfl (by omega) (by omega) (by omega) (by omega), inf_i hS_o rfl, inf_i hS_o rfl, inf_i hS_o rfl, fld_i hS_o rfl hS_x_10, lfd_i hS_o rfl hS_x_4⟩ (by omega) hg) (cwV 0 hT (gV w1190 w1192 ws55 w14 w1193) rfl rfl rfl (by decide +kernel) ⟨(Nat.le_of_ble_eq_true rfl), (Nat.le_of_ble_eq_true rfl)⟩) ⟨pcN.blind, pl_recv hK hW hT_o.1 hS_o rfl, pcN.pre hW.1 hK hW.2.1 hN (fun q h => absurd h List.not_mem_nil)⟩ rfl rfl hl.1 rfl (lv_room (Nat.le_of_ble_eq_true rfl)) dX12_numeral_10 ⟨(Nat.le_of_ble_eq_true rfl), (Nat.le_of_ble_eq_true rfl)⟩) hW hA0 hA (fun r_35 S_34 H locs hrel hW => ?_)
    obtain ⟨hTy, hF1, hx1⟩ := hrel
    have hFr := hFr.tr hF1 (by decide)
    have hS_x_10 := hF1.at hT_x_10 (by decide) hS_x_10
    have hS_x_4 := hF1.at hT_x_4 (by decide) hS_x_4
    have hpk_ := hx1.2
    have hpb_ := SK_le (g := g) (n := sn) (i := sp) (by omega)
    have hpg_ := SK_ge (g := g) (n := sn) (i := sp)
    obtain ⟨x_36, x_37, x_38, x_39, x_40, x_41, x_42, x_43, x_44, x_45, x_46, x_47, x_48, x_49, x_50, x_51, x_52, x_53, x_54, x_55, x_56, x_57, x_58, x_59, x_60, x_61, x_62, x_63, x_64, x_65, x_66, hS_o, hT_x_36, hT_x_37, hT_x_38, hT_x_39, hT_x_40, hb_x_41, hb_x_42, hb_x_43, hT_x_45, hb_q2, hb_x_46, hb_x_47, hT_x_52, hT_x_53, hb_x_54, hT_x_55, hT_x_56, hT_x_57, hT_x_58, hT_x_59, hT_x_60, hT_x_61, hT_x_62, hT_x_63, hT_x_64, hT_x_65, hb_x_66⟩ := hTy.k12 hT_o
    have hb_q2 : pr.2 ≤ 900 := hb_q2
    have hS_o : S_34 o = .inr (12, [.ref x_36, .ref x_37, .ref x_38, .ref x_39, .ref x_40, .int (nI x_41), .int (nI x_42), .int (nI x_43), .int x_44, .ref x_45, .int (nI (pr.2)), .int (nI x_46), .int (nI x_47), .int x_48, .int x_49, .int x_50, .int x_51, .ref x_52, .ref x_53, .int (nI x_54), .ref x_55, .ref x_56, .ref x_57, .ref x_58, .ref x_59, .ref x_60, .ref x_61, .ref x_62, .ref x_63, .ref x_64, .ref x_65, .int (nI x_66)]) := hS_o
    obtain ⟨hMK_, h14_, h15_, h16_, h9_, h3_⟩ := hx1.1
    obtain ⟨e12_, e11_, e13_, e5_, e6_, e0_⟩ := MKe hMK_ hS_o rfl rfl rfl rfl rfl rfl (by omega) (by omega) (by omega) (by omega)
    subst e12_ e11_ e13_ e5_ e6_ e0_
    have e14_ := h14_.symm.trans (inf_i hS_o rfl)
    subst e14_
    have e15_ := h15_.symm.trans (inf_i hS_o rfl)
    subst e15_
    have e16_ := h16_.symm.trans (inf_i hS_o rfl)
    subst e16_
    obtain ⟨f_67, hS_x_45⟩ := hTy.k55 hT_x_45
    have e9_ := h9_.symm.trans (fld_i hS_o rfl hS_x_45)
    subst e9_
    obtain ⟨f_68, hS_x_39⟩ := hTy.k53 hT_x_39
    have e3_ := h3_.symm.trans (lfd_i hS_o rfl hS_x_39)
    subst e3_
    refine vp_callSi (va_Run.run (va_runS (As := [.int r_35]) (rest := []) ⟨hx, hb, hml, hown, hT⟩ (f_isDigit l dC dI H.size r_35) (va_cwS 1 hT (gS w1242 w1243 w14 w1244) rfl rfl rfl (by decide +kernel) ⟨(Nat.le_of_ble_eq_true rfl), (Nat.le_of_ble_eq_true rfl)⟩) ⟨pcW.blind, pcW.pre (va_P0 _ _ _) (hK.sub (tys' := []) [] rfl) (va_D0 (fun _ => True))⟩ rfl rfl hl.1 rfl (lv_room (Nat.le_of_ble_eq_true rfl)) dX12_numeral_13 ⟨(Nat.le_of_ble_eq_true rfl), (Nat.le_of_ble_eq_true rfl)⟩)) (fun r_69 hr_69 => ?_)
    rcases hr_69 with hc_ | hc_
    · obtain ⟨rfl, hL_16⟩ := hc_
      refine lv_if_ne (tgt := 30) hx hb dX12_numeral_16 (by decide) (fun _ => ?_) (fun h => absurd h (by decide))
      refine lv_aload_n hx hb dX12_numeral_30 rfl (lv_at hl 0 rfl) ?_
      refine lv_aload_n hx hb dX12_numeral_31 rfl (lv_at hl 0 rfl) ?_
      refine pl_get (ci := 12) (v := .int (nI (SK g sn sp))) (C := RX12) (T := TX12) (N := 32) hx hb hT iX12 hown hK hW hT_o.1 hS_o rfl 12 (by decide) w1094 rfl dX12_numeral_32 ?_
      refine pl_put (ci := 12) (v := .int (nI (SK g sn sp))) (ty := .int) (C := RX12) (T := TX12) (N := 32) (fs' := [.ref rs, .ref x_37, .ref x_38, .ref x_39, .ref x_40, .int (nI pa), .int (nI ki), .int (nI x_43), .int x_44, .ref x_45, .int (nI (pr.2)), .int (nI sn), .int (nI (SK g sn sp)), .int wr, .int wa, .int sen, .int (nI (SK g sn sp)), .ref x_52, .ref x_53, .int (nI x_54), .ref x_55, .ref x_56, .ref x_57, .ref x_58, .ref x_59, .ref x_60, .ref x_61, .ref x_62, .ref x_63, .ref x_64, .ref x_65, .int (nI x_66)]) hx hb hT iX12 tyX12 tyX12_ok nmX12 hown hK hW hT_o.1 hS_o rfl 16 (by decide) w1098 rfl (by decide +kernel) rfl rfl (Nat.le_of_ble_eq_true rfl) rfl dX12_numeral_35 (fun H locs S_70 e1 hW => ?_)
      have hTy := hTy.u12 e1 hT_o ⟨rs, x_37, x_38, x_39, x_40, pa, ki, x_43, x_44, x_45, sn, SK g sn sp, wr, wa, sen, nI (SK g sn sp), x_52, x_53, x_54, x_55, x_56, x_57, x_58, x_59, x_60, x_61, x_62, x_63, x_64, x_65, x_66, rfl, hT_x_1, hT_x_37, hT_x_38, hT_x_39, hT_x_40, (by omega), (by omega), (by omega), hT_x_45, (by show pr.2 ≤ 900; omega), (by omega), (by omega), hT_x_52, hT_x_53, (by omega), hT_x_55, hT_x_56, hT_x_57, hT_x_58, hT_x_59, hT_x_60, hT_x_61, hT_x_62, hT_x_63, hT_x_64, hT_x_65, (by omega)⟩
      have hS_x_10 := un e1 hT_x_10 hT_o (by decide) hS_x_10
      have hS_x_4 := un e1 hT_x_4 hT_o (by decide) hS_x_4
      have hS_x_45 := un e1 hT_x_45 hT_o (by decide) hS_x_45
      have hS_x_39 := un e1 hT_x_39 hT_o (by decide) hS_x_39
      have hws := (show wrs (.inr (12, [.ref rs, .ref x_37, .ref x_38, .ref x_39, .ref x_40, .int (nI pa), .int (nI ki), .int (nI x_43), .int x_44, .ref x_45, .int (nI (pr.2)), .int (nI sn), .int (nI (SK g sn sp)), .int wr, .int wa, .int sen, .int (nI (SK g sn sp)), .ref x_52, .ref x_53, .int (nI x_54), .ref x_55, .ref x_56, .ref x_57, .ref x_58, .ref x_59, .ref x_60, .ref x_61, .ref x_62, .ref x_63, .ref x_64, .ref x_65, .int (nI x_66)])) = wrs (S_34 o) from by rw [hS_o]; rfl)
      have hFr := ufs hFr e1 hT_o (by decide) hws
      have hS_o := us e1
      refine lv_iconst (v := 0) hx hb dX12_numeral_38 (by decide) ?_
      refine lv_istore_n (lv' := [(3, .int 0), (0, .ref o), (1, .int lo), (2, .int hi)]) hx hb dX12_numeral_39 rfl hl (by decide) rfl (fun ls hl => ?_)
      have loop : ∀ (fuel : Nat) (vl : Int32) (gs : Nat) (SS : Nat → va_E) (H : Heap) (locs : List Loc) (ls : Array Slot), 901 - gs < fuel → (SS o = .inr (12, [.ref rs, .ref x_37, .ref x_38, .ref x_39, .ref x_40, .int (nI pa), .int (nI ki), .int (nI x_43), .int x_44, .ref x_45, .int (nI (pr.2)), .int (nI sn), .int (nI gs), .int wr, .int wa, .int sen, .int (nI (SK g sn sp)), .ref x_52, .ref x_53, .int (nI x_54), .ref x_55, .ref x_56, .ref x_57, .ref x_58, .ref x_59, .ref x_60, .ref x_61, .ref x_62, .ref x_63, .ref x_64, .ref x_65, .int (nI x_66)])) → (gs ≤ sn) → (SK g sn sp ≤ gs) → (∀ k, SK g sn sp ≤ k → k < gs → k < sn ∧ isD (g k) = true) → (gs - SK g sn sp ≤ 8 → vl = nI (NV g (SK g sn sp) (gs - SK g sn sp))) → Ty cy L kap pr SS → Fr kap [12, 112] S SS → Fr kap [12, 112] S_70 SS → PW dC dI L (AL L s.heap.size) s.heap SS H locs → lv_has ls 4 [(3, .int vl), (0, .ref o), (1, .int lo), (2, .int hi)] → W p l e (headSpec (wT yX12_numeral cX12_numeral 4 (some .int)) { frames := 2, cells := 0, slots := 0, locals := 45 }).room s m [.ref o, .int lo, .int hi].toArray below meth c H locs 0 0 (MQ below (va_Qi (fun r S' => Ty cy L kap pr S' ∧ Fr kap [12, 112] S S' ∧ (∃ sp' wr' wa' ra', MF S' o g nm sp' sn wr' wa' sen ra' pa ki rs ∧ sp' ≤ sn ∧ ERR wr wa (nbc g sn sp lo hi) (SK g sn sp) wr' wa' ∧ (wr = 0 → nbc g sn sp lo hi = 0 → sp' = tke g sn sp ∧ ra' = nI (SK g sn sp) ∧ r = nI (NV g (SK g sn sp) (tke g sn sp - SK g sn sp))))) (fun S' t => pB dC dI (AL L s.heap.size) (va_pl L S') (cyT cy) t) (AL L s.heap.size)) [.ref o, .int lo, .int hi].toArray s 0 0 (AL L s.heap.size)) (F0 m 40 ls []) := by
        intro fuel
        induction fuel with
        | zero => intro vl gs SS H locs ls h; exact absurd h (Nat.not_lt_zero _)
        | succ fu40 ih40 =>
          intro vl gs S_71 H locs ls hm40 hSl hx9 hy9 hdt hvl hTy hFr hFl40 hW hl
          have hS_x_10 := hFl40.at hT_x_10 (by decide) hS_x_10
          have hS_x_4 := hFl40.at hT_x_4 (by decide) hS_x_4
          have hS_x_45 := hFl40.at hT_x_45 (by decide) hS_x_45
          have hS_x_39 := hFl40.at hT_x_39 (by decide) hS_x_39
          refine lv_aload_n hx hb dX12_numeral_40 rfl (lv_at hl 1 rfl) ?_
          refine pl_get (ci := 12) (v := .int (nI gs)) (C := RX12) (T := TX12) (N := 32) hx hb hT iX12 hown hK hW hT_o.1 hSl rfl 12 (by decide) w1094 rfl dX12_numeral_41 ?_
          refine lv_aload_n hx hb dX12_numeral_44 rfl (lv_at hl 1 rfl) ?_
          refine pl_get (ci := 12) (v := .int (nI sn)) (C := RX12) (T := TX12) (N := 32) hx hb hT iX12 hown hK hW hT_o.1 hSl rfl 11 (by decide) w1093 rfl dX12_numeral_45 ?_
          refine lv_icmp_ge (tgt := 111) hx hb dX12_numeral_48 (by decide) (fun c_48 => ?_) (fun c_48 => ?_)
          · have c_48 : sn ≤ gs := (nI_leI (a := sn) (b := gs) (by omega) (by omega)).mp c_48
            have hDT : DT g sn (SK g sn sp) = gs := DT_s (by omega) (by omega) hdt (fun z => by omega)
            have htk := tk3_y (p := sp) hg (by omega) (by rw [← hpk_]; exact hL_16)
            have hte : tke g sn sp = gs := htk.2.2.trans hDT
            refine lv_aload_n hx hb dX12_numeral_111 rfl (lv_at hl 1 rfl) ?_
            refine pl_get (ci := 12) (v := .int (nI gs)) (C := RX12) (T := TX12) (N := 32) hx hb hT iX12 hown hK hW hT_o.1 hSl rfl 12 (by decide) w1094 rfl dX12_numeral_112 ?_
            refine lv_aload_n hx hb dX12_numeral_115 rfl (lv_at hl 1 rfl) ?_
            refine pl_get (ci := 12) (v := .int (nI (SK g sn sp))) (C := RX12) (T := TX12) (N := 32) hx hb hT iX12 hown hK hW hT_o.1 hSl rfl 16 (by decide) w1098 rfl dX12_numeral_116 ?_
            refine lv_isub hx hb dX12_numeral_119 ?_
            refine lv_topi (fun z_72 ez_72 => ?_)
            obtain rfl : z_72 = nI (gs - (SK g sn sp)) := ez_72.trans (pk_sub (a := gs) (b := SK g sn sp) (by omega))
            refine lv_bipush (v := 8) hx hb dX12_numeral_120 (by decide) ?_
            refine lv_icmp_gt (tgt := 137) hx hb dX12_numeral_122 (by decide) (fun c_122 => ?_) (fun c_122 => ?_)
            · have c_122 : 8 < (gs - (SK g sn sp)) := (nI_ltI (a := 8) (b := gs - (SK g sn sp)) (by omega) (by omega)).mp c_122
              refine lv_aload_n hx hb dX12_numeral_137 rfl (lv_at hl 1 rfl) ?_
              refine lv_iconst (v := 2) hx hb dX12_numeral_138 (by decide) ?_
              refine lv_aload_n hx hb dX12_numeral_139 rfl (lv_at hl 1 rfl) ?_
              refine pl_get (ci := 12) (v := .int (nI (SK g sn sp))) (C := RX12) (T := TX12) (N := 32) hx hb hT iX12 hown hK hW hT_o.1 hSl rfl 16 (by decide) w1098 rfl dX12_numeral_140 ?_
              refine pl_callv (va_runV (As := [.int 2, .int (nI (SK g sn sp))]) (rest := []) ⟨hx, hb, hml, hown, hT⟩ (f_fails l dC dI cy L kap pr S_71 H.size o 2 (nI (SK g sn sp)) hTy hT_o g nm gs sn wr wa sen (nI (SK g sn sp)) pa ki rs ⟨MKi (sp := gs) (sn := sn) (pa := pa) (ki := ki) hSl rfl rfl rfl rfl rfl rfl (by omega) (by omega) (by omega) (by omega), inf_i hSl rfl, inf_i hSl rfl, inf_i hSl rfl, fld_i hSl rfl hS_x_45, lfd_i hSl rfl hS_x_39⟩ (by omega) hg) (cwV 2 hT (gV w1214 w1216 ws59 w14 w1217) rfl rfl rfl (by decide +kernel) ⟨(Nat.le_of_ble_eq_true rfl), (Nat.le_of_ble_eq_true rfl)⟩) ⟨pcN.blind, pl_recv hK hW hT_o.1 hSl rfl, pcN.pre hW.1 hK hW.2.1 hN (fun q h => absurd h List.not_mem_nil)⟩ rfl rfl hl.1 rfl (lv_room (Nat.le_of_ble_eq_true rfl)) dX12_numeral_143 ⟨(Nat.le_of_ble_eq_true rfl), (Nat.le_of_ble_eq_true rfl)⟩) hW hA0 hA (fun S_73 H locs hrel hW => ?_)
              obtain ⟨hTy, hF1, hx1⟩ := hrel
              have hFr := hFr.tr hF1 (by decide)
              have hFl40 := hFl40.tr hF1 (by decide)
              have hS_x_10 := hF1.at hT_x_10 (by decide) hS_x_10
              have hS_x_4 := hF1.at hT_x_4 (by decide) hS_x_4
              have hS_x_45 := hF1.at hT_x_45 (by decide) hS_x_45
              have hS_x_39 := hF1.at hT_x_39 (by decide) hS_x_39
              obtain ⟨wr74, wa74, hM74, hfa74, hfb74⟩ := hx1
              obtain ⟨x_75, x_76, x_77, x_78, x_79, x_80, x_81, x_82, x_83, x_84, x_85, x_86, x_87, x_88, x_89, x_90, x_91, x_92, x_93, x_94, x_95, x_96, x_97, x_98, x_99, x_100, x_101, x_102, x_103, x_104, x_105, hS_o, hT_x_75, hT_x_76, hT_x_77, hT_x_78, hT_x_79, hb_x_80, hb_x_81, hb_x_82, hT_x_84, hb_q2, hb_x_85, hb_x_86, hT_x_91, hT_x_92, hb_x_93, hT_x_94, hT_x_95, hT_x_96, hT_x_97, hT_x_98, hT_x_99, hT_x_100, hT_x_101, hT_x_102, hT_x_103, hT_x_104, hb_x_105⟩ := hTy.k12 hT_o
              have hb_q2 : pr.2 ≤ 900 := hb_q2
              have hS_o : S_73 o = .inr (12, [.ref x_75, .ref x_76, .ref x_77, .ref x_78, .ref x_79, .int (nI x_80), .int (nI x_81), .int (nI x_82), .int x_83, .ref x_84, .int (nI (pr.2)), .int (nI x_85), .int (nI x_86), .int x_87, .int x_88, .int x_89, .int x_90, .ref x_91, .ref x_92, .int (nI x_93), .ref x_94, .ref x_95, .ref x_96, .ref x_97, .ref x_98, .ref x_99, .ref x_100, .ref x_101, .ref x_102, .ref x_103, .ref x_104, .int (nI x_105)]) := hS_o
              obtain ⟨hMK_, h14_, h15_, h16_, h9_, h3_⟩ := hM74
              obtain ⟨e12_, e11_, e13_, e5_, e6_, e0_⟩ := MKe hMK_ hS_o rfl rfl rfl rfl rfl rfl (by omega) (by omega) (by omega) (by omega)
              subst e12_ e11_ e13_ e5_ e6_ e0_
              have e14_ := h14_.symm.trans (inf_i hS_o rfl)
              subst e14_
              have e15_ := h15_.symm.trans (inf_i hS_o rfl)
              subst e15_
              have e16_ := h16_.symm.trans (inf_i hS_o rfl)
              subst e16_
              obtain ⟨f_106, hS_x_84⟩ := hTy.k55 hT_x_84
              have e9_ := h9_.symm.trans (fld_i hS_o rfl hS_x_84)
              subst e9_
              obtain ⟨f_107, hS_x_78⟩ := hTy.k53 hT_x_78
              have e3_ := h3_.symm.trans (lfd_i hS_o rfl hS_x_78)
              subst e3_
              refine lv_aload_n hx hb dX12_numeral_146 rfl (lv_at hl 1 rfl) ?_
              refine pl_get (ci := 12) (v := .int wr74) (C := RX12) (T := TX12) (N := 32) hx hb hT iX12 hown hK hW hT_o.1 hS_o rfl 13 (by decide) w1095 rfl dX12_numeral_147 ?_
              refine lv_if_ne (tgt := 157) hx hb dX12_numeral_150 (by decide) (fun c_150 => ?_) (fun c_150 => ?_)
              · refine lv_iload_n hx hb dX12_numeral_157 rfl (lv_at hl 2 rfl) ?_
                exact W.iret (v := lo) hx hb hr (fun t ht h9 => ⟨⟨lo, S_73, rfl, ⟨hTy, hFr, ⟨gs, _, _, _, ⟨MKi (sp := gs) (sn := sn) (pa := pa) (ki := ki) hS_o rfl rfl rfl rfl rfl rfl (by omega) (by omega) (by omega) (by omega), inf_i hS_o rfl, inf_i hS_o rfl, inf_i hS_o rfl, fld_i hS_o rfl hS_x_84, lfd_i hS_o rfl hS_x_78⟩, by omega, by rw [(nbc_2 (lo := lo) (hi := hi) htk.2.1 (by rw [hte]; exact fun z => absurd z.1 (by omega)))]; exact ERR_e c_4 (by decide) (hfb74 c_4), fun _ z => absurd z (by rw [(nbc_2 (lo := lo) (hi := hi) htk.2.1 (by rw [hte]; exact fun z => absurd z.1 (by omega)))]; decide)⟩⟩, by rw [ht]; exact hW.1, va_K.moved h9.alike hK, hW.2.1⟩, hW.2.2.F ht⟩) hW.2.2.2.2 dX12_numeral_158
              · refine lv_iload_n hx hb dX12_numeral_153 rfl (lv_at hl 0 rfl) ?_
                refine lv_goto (tgt := 158) hx hb dX12_numeral_154 (by decide) ?_
                exact W.iret (v := vl) hx hb hr (fun t ht h9 => ⟨⟨vl, S_73, rfl, ⟨hTy, hFr, ⟨gs, _, _, _, ⟨MKi (sp := gs) (sn := sn) (pa := pa) (ki := ki) hS_o rfl rfl rfl rfl rfl rfl (by omega) (by omega) (by omega) (by omega), inf_i hS_o rfl, inf_i hS_o rfl, inf_i hS_o rfl, fld_i hS_o rfl hS_x_84, lfd_i hS_o rfl hS_x_78⟩, by omega, by have q_ := (hfb74 c_4).1; rw [c_150] at q_; exact absurd q_ (by decide), fun _ _ => by have q_ := (hfb74 c_4).1; rw [c_150] at q_; exact absurd q_ (by decide)⟩⟩, by rw [ht]; exact hW.1, va_K.moved h9.alike hK, hW.2.1⟩, hW.2.2.F ht⟩) hW.2.2.2.2 dX12_numeral_158
            · have c_122 : ¬ (8 < (gs - (SK g sn sp))) := fun hh9 => c_122 ((nI_ltI (a := 8) (b := gs - (SK g sn sp)) (by omega) (by omega)).mpr hh9)
              refine lv_iload_n hx hb dX12_numeral_125 rfl (lv_at hl 0 rfl) ?_
              refine lv_i2l hx hb dX12_numeral_126 rfl ?_
              refine lv_topl (fun z_108 ez_108 => ?_)
              refine lv_iload_n hx hb dX12_numeral_127 rfl (lv_at hl 2 rfl) ?_
              refine lv_i2l hx hb dX12_numeral_128 rfl ?_
              refine lv_topl (fun z_109 ez_109 => ?_)
              refine lv_iload_n hx hb dX12_numeral_129 rfl (lv_at hl 3 rfl) ?_
              refine lv_i2l hx hb dX12_numeral_130 rfl ?_
              refine lv_topl (fun z_110 ez_110 => ?_)
              refine vp_callSi (va_Run.run (va_runS (As := [.long z_108, .long z_109, .long z_110]) (rest := []) ⟨hx, hb, hml, hown, hT⟩ (m_isIn l dC dI H.size z_108 z_109 z_110) (va_cwS 3 hT (gS w1187 w1188 w14 w1189) rfl rfl rfl (by decide +kernel) ⟨(Nat.le_of_ble_eq_true rfl), (Nat.le_of_ble_eq_true rfl)⟩) ⟨pcW.blind, pcW.pre (va_P0 _ _ _) (hK.sub (tys' := []) [] rfl) (va_D0 (fun _ => True))⟩ rfl rfl hl.1 rfl (lv_room (Nat.le_of_ble_eq_true rfl)) dX12_numeral_131 ⟨(Nat.le_of_ble_eq_true rfl), (Nat.le_of_ble_eq_true rfl)⟩)) (fun r_111 hr_111 => ?_)
              rcases isInc hr_111 with hc_ | hc_
              · obtain ⟨rfl, hin_⟩ := hc_
                have hin9 := (in_6 ez_108 ez_109 ez_110).mp hin_
                refine lv_if_ne (tgt := 146) hx hb dX12_numeral_134 (by decide) (fun _ => ?_) (fun h => absurd h (by decide))
                refine lv_aload_n hx hb dX12_numeral_146 rfl (lv_at hl 1 rfl) ?_
                refine pl_get (ci := 12) (v := .int wr) (C := RX12) (T := TX12) (N := 32) hx hb hT iX12 hown hK hW hT_o.1 hSl rfl 13 (by decide) w1095 rfl dX12_numeral_147 ?_
                refine lv_if_ne (tgt := 157) hx hb dX12_numeral_150 (by decide) (fun c_150 => ?_) (fun c_150 => ?_)
                · refine lv_iload_n hx hb dX12_numeral_157 rfl (lv_at hl 2 rfl) ?_
                  exact W.iret (v := lo) hx hb hr (fun t ht h9 => ⟨⟨lo, S_71, rfl, ⟨hTy, hFr, ⟨gs, _, _, _, ⟨MKi (sp := gs) (sn := sn) (pa := pa) (ki := ki) hSl rfl rfl rfl rfl rfl rfl (by omega) (by omega) (by omega) (by omega), inf_i hSl rfl, inf_i hSl rfl, inf_i hSl rfl, fld_i hSl rfl hS_x_45, lfd_i hSl rfl hS_x_39⟩, by omega, absurd c_4 c_150, fun _ _ => absurd c_4 c_150⟩⟩, by rw [ht]; exact hW.1, va_K.moved h9.alike hK, hW.2.1⟩, hW.2.2.F ht⟩) hW.2.2.2.2 dX12_numeral_158
                · refine lv_iload_n hx hb dX12_numeral_153 rfl (lv_at hl 0 rfl) ?_
                  refine lv_goto (tgt := 158) hx hb dX12_numeral_154 (by decide) ?_
                  exact W.iret (v := vl) hx hb hr (fun t ht h9 => ⟨⟨vl, S_71, rfl, ⟨hTy, hFr, ⟨gs, _, _, _, ⟨MKi (sp := gs) (sn := sn) (pa := pa) (ki := ki) hSl rfl rfl rfl rfl rfl rfl (by omega) (by omega) (by omega) (by omega), inf_i hSl rfl, inf_i hSl rfl, inf_i hSl rfl, fld_i hSl rfl hS_x_45, lfd_i hSl rfl hS_x_39⟩, by omega, by rw [(nbc_0 (lo := lo) (hi := hi) htk.2.1 (by rw [hte, ← hvl (by omega)]; exact ⟨by omega, hin9⟩))]; exact ERR_0, fun _ _ => ⟨hte.symm, rfl, by rw [hte]; exact hvl (by omega)⟩⟩⟩, by rw [ht]; exact hW.1, va_K.moved h9.alike hK, hW.2.1⟩, hW.2.2.F ht⟩) hW.2.2.2.2 dX12_numeral_158
              · obtain ⟨rfl, hin_⟩ := hc_
                have hin9 := fun q => hin_ ((in_6 ez_108 ez_109 ez_110).mpr q)
                refine lv_if_ne (tgt := 146) hx hb dX12_numeral_134 (by decide) (fun h => absurd (by decide) h) (fun _ => ?_)
                refine lv_aload_n hx hb dX12_numeral_137 rfl (lv_at hl 1 rfl) ?_
                refine lv_iconst (v := 2) hx hb dX12_numeral_138 (by decide) ?_
                refine lv_aload_n hx hb dX12_numeral_139 rfl (lv_at hl 1 rfl) ?_
                refine pl_get (ci := 12) (v := .int (nI (SK g sn sp))) (C := RX12) (T := TX12) (N := 32) hx hb hT iX12 hown hK hW hT_o.1 hSl rfl 16 (by decide) w1098 rfl dX12_numeral_140 ?_
                refine pl_callv (va_runV (As := [.int 2, .int (nI (SK g sn sp))]) (rest := []) ⟨hx, hb, hml, hown, hT⟩ (f_fails l dC dI cy L kap pr S_71 H.size o 2 (nI (SK g sn sp)) hTy hT_o g nm gs sn wr wa sen (nI (SK g sn sp)) pa ki rs ⟨MKi (sp := gs) (sn := sn) (pa := pa) (ki := ki) hSl rfl rfl rfl rfl rfl rfl (by omega) (by omega) (by omega) (by omega), inf_i hSl rfl, inf_i hSl rfl, inf_i hSl rfl, fld_i hSl rfl hS_x_45, lfd_i hSl rfl hS_x_39⟩ (by omega) hg) (cwV 2 hT (gV w1214 w1216 ws59 w14 w1217) rfl rfl rfl (by decide +kernel) ⟨(Nat.le_of_ble_eq_true rfl), (Nat.le_of_ble_eq_true rfl)⟩) ⟨pcN.blind, pl_recv hK hW hT_o.1 hSl rfl, pcN.pre hW.1 hK hW.2.1 hN (fun q h => absurd h List.not_mem_nil)⟩ rfl rfl hl.1 rfl (lv_room (Nat.le_of_ble_eq_true rfl)) dX12_numeral_143 ⟨(Nat.le_of_ble_eq_true rfl), (Nat.le_of_ble_eq_true rfl)⟩) hW hA0 hA (fun S_112 H locs hrel hW => ?_)
                obtain ⟨hTy, hF1, hx1⟩ := hrel
                have hFr := hFr.tr hF1 (by decide)
                have hFl40 := hFl40.tr hF1 (by decide)
                have hS_x_10 := hF1.at hT_x_10 (by decide) hS_x_10
                have hS_x_4 := hF1.at hT_x_4 (by decide) hS_x_4
                have hS_x_45 := hF1.at hT_x_45 (by decide) hS_x_45
                have hS_x_39 := hF1.at hT_x_39 (by decide) hS_x_39
                obtain ⟨wr113, wa113, hM113, hfa113, hfb113⟩ := hx1
                obtain ⟨x_114, x_115, x_116, x_117, x_118, x_119, x_120, x_121, x_122, x_123, x_124, x_125, x_126, x_127, x_128, x_129, x_130, x_131, x_132, x_133, x_134, x_135, x_136, x_137, x_138, x_139, x_140, x_141, x_142, x_143, x_144, hS_o, hT_x_114, hT_x_115, hT_x_116, hT_x_117, hT_x_118, hb_x_119, hb_x_120, hb_x_121, hT_x_123, hb_q2, hb_x_124, hb_x_125, hT_x_130, hT_x_131, hb_x_132, hT_x_133, hT_x_134, hT_x_135, hT_x_136, hT_x_137, hT_x_138, hT_x_139, hT_x_140, hT_x_141, hT_x_142, hT_x_143, hb_x_144⟩ := hTy.k12 hT_o
                have hb_q2 : pr.2 ≤ 900 := hb_q2
                have hS_o : S_112 o = .inr (12, [.ref x_114, .ref x_115, .ref x_116, .ref x_117, .ref x_118, .int (nI x_119), .int (nI x_120), .int (nI x_121), .int x_122, .ref x_123, .int (nI (pr.2)), .int (nI x_124), .int (nI x_125), .int x_126, .int x_127, .int x_128, .int x_129, .ref x_130, .ref x_131, .int (nI x_132), .ref x_133, .ref x_134, .ref x_135, .ref x_136, .ref x_137, .ref x_138, .ref x_139, .ref x_140, .ref x_141, .ref x_142, .ref x_143, .int (nI x_144)]) := hS_o
                obtain ⟨hMK_, h14_, h15_, h16_, h9_, h3_⟩ := hM113
                obtain ⟨e12_, e11_, e13_, e5_, e6_, e0_⟩ := MKe hMK_ hS_o rfl rfl rfl rfl rfl rfl (by omega) (by omega) (by omega) (by omega)
                subst e12_ e11_ e13_ e5_ e6_ e0_
                have e14_ := h14_.symm.trans (inf_i hS_o rfl)
                subst e14_
                have e15_ := h15_.symm.trans (inf_i hS_o rfl)
                subst e15_
                have e16_ := h16_.symm.trans (inf_i hS_o rfl)
                subst e16_
                obtain ⟨f_145, hS_x_123⟩ := hTy.k55 hT_x_123
                have e9_ := h9_.symm.trans (fld_i hS_o rfl hS_x_123)
                subst e9_
                obtain ⟨f_146, hS_x_117⟩ := hTy.k53 hT_x_117
                have e3_ := h3_.symm.trans (lfd_i hS_o rfl hS_x_117)
                subst e3_
                refine lv_aload_n hx hb dX12_numeral_146 rfl (lv_at hl 1 rfl) ?_
                refine pl_get (ci := 12) (v := .int wr113) (C := RX12) (T := TX12) (N := 32) hx hb hT iX12 hown hK hW hT_o.1 hS_o rfl 13 (by decide) w1095 rfl dX12_numeral_147 ?_
                refine lv_if_ne (tgt := 157) hx hb dX12_numeral_150 (by decide) (fun c_150 => ?_) (fun c_150 => ?_)
                · refine lv_iload_n hx hb dX12_numeral_157 rfl (lv_at hl 2 rfl) ?_
                  exact W.iret (v := lo) hx hb hr (fun t ht h9 => ⟨⟨lo, S_112, rfl, ⟨hTy, hFr, ⟨gs, _, _, _, ⟨MKi (sp := gs) (sn := sn) (pa := pa) (ki := ki) hS_o rfl rfl rfl rfl rfl rfl (by omega) (by omega) (by omega) (by omega), inf_i hS_o rfl, inf_i hS_o rfl, inf_i hS_o rfl, fld_i hS_o rfl hS_x_123, lfd_i hS_o rfl hS_x_117⟩, by omega, by rw [(nbc_2 (lo := lo) (hi := hi) htk.2.1 (by rw [hte]; exact fun z => hin9 (by rw [hvl z.1]; exact z.2)))]; exact ERR_e c_4 (by decide) (hfb113 c_4), fun _ z => absurd z (by rw [(nbc_2 (lo := lo) (hi := hi) htk.2.1 (by rw [hte]; exact fun z => hin9 (by rw [hvl z.1]; exact z.2)))]; decide)⟩⟩, by rw [ht]; exact hW.1, va_K.moved h9.alike hK, hW.2.1⟩, hW.2.2.F ht⟩) hW.2.2.2.2 dX12_numeral_158
                · refine lv_iload_n hx hb dX12_numeral_153 rfl (lv_at hl 0 rfl) ?_
                  refine lv_goto (tgt := 158) hx hb dX12_numeral_154 (by decide) ?_
                  exact W.iret (v := vl) hx hb hr (fun t ht h9 => ⟨⟨vl, S_112, rfl, ⟨hTy, hFr, ⟨gs, _, _, _, ⟨MKi (sp := gs) (sn := sn) (pa := pa) (ki := ki) hS_o rfl rfl rfl rfl rfl rfl (by omega) (by omega) (by omega) (by omega), inf_i hS_o rfl, inf_i hS_o rfl, inf_i hS_o rfl, fld_i hS_o rfl hS_x_123, lfd_i hS_o rfl hS_x_117⟩, by omega, by have q_ := (hfb113 c_4).1; rw [c_150] at q_; exact absurd q_ (by decide), fun _ _ => by have q_ := (hfb113 c_4).1; rw [c_150] at q_; exact absurd q_ (by decide)⟩⟩, by rw [ht]; exact hW.1, va_K.moved h9.alike hK, hW.2.1⟩, hW.2.2.F ht⟩) hW.2.2.2.2 dX12_numeral_158
          · have c_48 : ¬ (sn ≤ gs) := fun hh9 => c_48 ((nI_leI (a := sn) (b := gs) (by omega) (by omega)).mpr hh9)
            refine lv_aload_n hx hb dX12_numeral_51 rfl (lv_at hl 1 rfl) ?_
            refine pl_get (ci := 12) (v := .ref x_45) (C := RX12) (T := TX12) (N := 32) hx hb hT iX12 hown hK hW hT_o.1 hSl rfl 9 (by decide) w1091 rfl dX12_numeral_52 ?_
            refine lv_aload_n hx hb dX12_numeral_55 rfl (lv_at hl 1 rfl) ?_
            refine pl_get (ci := 12) (v := .int (nI gs)) (C := RX12) (T := TX12) (N := 32) hx hb hT iX12 hown hK hW hT_o.1 hSl rfl 12 (by decide) w1094 rfl dX12_numeral_56 ?_
            refine pl_bald hx hb hK hW hT_x_45.1 hS_x_45 (vp_in_nI (n := gs) (N := 900) (by omega) (by omega)) dX12_numeral_59 ?_
            refine lv_topi (fun y_147 ey_147 => ?_)
            refine vp_callSi (va_Run.run (va_runS (As := [.int y_147]) (rest := []) ⟨hx, hb, hml, hown, hT⟩ (f_isDigit l dC dI H.size y_147) (va_cwS 1 hT (gS w1242 w1243 w14 w1244) rfl rfl rfl (by decide +kernel) ⟨(Nat.le_of_ble_eq_true rfl), (Nat.le_of_ble_eq_true rfl)⟩) ⟨pcW.blind, pcW.pre (va_P0 _ _ _) (hK.sub (tys' := []) [] rfl) (va_D0 (fun _ => True))⟩ rfl rfl hl.1 rfl (lv_room (Nat.le_of_ble_eq_true rfl)) dX12_numeral_60 ⟨(Nat.le_of_ble_eq_true rfl), (Nat.le_of_ble_eq_true rfl)⟩)) (fun r_148 hr_148 => ?_)
            rcases hr_148 with hc_ | hc_
            · obtain ⟨rfl, hL_63⟩ := hc_
              refine lv_if_eq (tgt := 111) hx hb dX12_numeral_63 (by decide) (fun h => absurd h (by decide)) (fun _ => ?_)
              refine lv_aload_n hx hb dX12_numeral_66 rfl (lv_at hl 1 rfl) ?_
              refine pl_get (ci := 12) (v := .int (nI gs)) (C := RX12) (T := TX12) (N := 32) hx hb hT iX12 hown hK hW hT_o.1 hSl rfl 12 (by decide) w1094 rfl dX12_numeral_67 ?_
              refine lv_aload_n hx hb dX12_numeral_70 rfl (lv_at hl 1 rfl) ?_
              refine pl_get (ci := 12) (v := .int (nI (SK g sn sp))) (C := RX12) (T := TX12) (N := 32) hx hb hT iX12 hown hK hW hT_o.1 hSl rfl 16 (by decide) w1098 rfl dX12_numeral_71 ?_
              refine lv_isub hx hb dX12_numeral_74 ?_
              refine lv_topi (fun z_149 ez_149 => ?_)
              obtain rfl : z_149 = nI (gs - (SK g sn sp)) := ez_149.trans (pk_sub (a := gs) (b := SK g sn sp) (by omega))
              refine lv_bipush (v := 8) hx hb dX12_numeral_75 (by decide) ?_
              refine lv_icmp_ge (tgt := 98) hx hb dX12_numeral_77 (by decide) (fun c_77 => ?_) (fun c_77 => ?_)
              · have c_77 : 8 ≤ (gs - (SK g sn sp)) := (nI_leI (a := 8) (b := gs - (SK g sn sp)) (by omega) (by omega)).mp c_77
                refine lv_aload_n hx hb dX12_numeral_98 rfl (lv_at hl 1 rfl) ?_
                refine lv_dup hx hb dX12_numeral_99 rfl ?_
                refine pl_get (ci := 12) (v := .int (nI gs)) (C := RX12) (T := TX12) (N := 32) hx hb hT iX12 hown hK hW hT_o.1 hSl rfl 12 (by decide) w1094 rfl dX12_numeral_100 ?_
                refine lv_iconst (v := 1) hx hb dX12_numeral_103 (by decide) ?_
                refine lv_iadd hx hb dX12_numeral_104 ?_
                refine lv_topi (fun z_150 ez_150 => ?_)
                obtain rfl : z_150 = nI (gs + 1) := ez_150.trans (nI_add (gs) (1))
                refine pl_put (ci := 12) (v := .int (nI (gs + 1))) (ty := .int) (C := RX12) (T := TX12) (N := 32) (fs' := [.ref rs, .ref x_37, .ref x_38, .ref x_39, .ref x_40, .int (nI pa), .int (nI ki), .int (nI x_43), .int x_44, .ref x_45, .int (nI (pr.2)), .int (nI sn), .int (nI (gs + 1)), .int wr, .int wa, .int sen, .int (nI (SK g sn sp)), .ref x_52, .ref x_53, .int (nI x_54), .ref x_55, .ref x_56, .ref x_57, .ref x_58, .ref x_59, .ref x_60, .ref x_61, .ref x_62, .ref x_63, .ref x_64, .ref x_65, .int (nI x_66)]) hx hb hT iX12 tyX12 tyX12_ok nmX12 hown hK hW hT_o.1 hSl rfl 12 (by decide) w1094 rfl (by decide +kernel) rfl rfl (Nat.le_of_ble_eq_true rfl) rfl dX12_numeral_105 (fun H locs S_151 e1 hW => ?_)
                have hTy := hTy.u12 e1 hT_o ⟨rs, x_37, x_38, x_39, x_40, pa, ki, x_43, x_44, x_45, sn, gs + 1, wr, wa, sen, nI (SK g sn sp), x_52, x_53, x_54, x_55, x_56, x_57, x_58, x_59, x_60, x_61, x_62, x_63, x_64, x_65, x_66, rfl, hT_x_1, hT_x_37, hT_x_38, hT_x_39, hT_x_40, (by omega), (by omega), (by omega), hT_x_45, (by show pr.2 ≤ 900; omega), (by omega), (by omega), hT_x_52, hT_x_53, (by omega), hT_x_55, hT_x_56, hT_x_57, hT_x_58, hT_x_59, hT_x_60, hT_x_61, hT_x_62, hT_x_63, hT_x_64, hT_x_65, (by omega)⟩
                have hS_x_10 := un e1 hT_x_10 hT_o (by decide) hS_x_10
                have hS_x_4 := un e1 hT_x_4 hT_o (by decide) hS_x_4
                have hS_x_45 := un e1 hT_x_45 hT_o (by decide) hS_x_45
                have hS_x_39 := un e1 hT_x_39 hT_o (by decide) hS_x_39
                have hws := (show wrs (.inr (12, [.ref rs, .ref x_37, .ref x_38, .ref x_39, .ref x_40, .int (nI pa), .int (nI ki), .int (nI x_43), .int x_44, .ref x_45, .int (nI (pr.2)), .int (nI sn), .int (nI (gs + 1)), .int wr, .int wa, .int sen, .int (nI (SK g sn sp)), .ref x_52, .ref x_53, .int (nI x_54), .ref x_55, .ref x_56, .ref x_57, .ref x_58, .ref x_59, .ref x_60, .ref x_61, .ref x_62, .ref x_63, .ref x_64, .ref x_65, .int (nI x_66)])) = wrs (S_71 o) from by rw [hSl]; rfl)
                have hFr := ufs hFr e1 hT_o (by decide) hws
                have hFl40 := ufs hFl40 e1 hT_o (by decide) hws
                have hSl := us e1
                refine lv_goto (tgt := 40) hx hb dX12_numeral_108 (by decide) ?_
                exact ih40 vl (gs + 1) _ _ _ ls (by omega) hSl (by omega) (by omega) (fun k a b => by by_cases e_ : k = gs; rw [e_]; exact ⟨by omega, by have q_ := hL_63; rw [ey_147, nI_clamp (by omega)] at q_; exact q_⟩; exact hdt k a (by omega)) (fun h => by omega) hTy hFr hFl40 hW (lv_sub hl [0, 1, 2, 3] rfl)
              · have c_77 : ¬ (8 ≤ (gs - (SK g sn sp))) := fun hh9 => c_77 ((nI_leI (a := 8) (b := gs - (SK g sn sp)) (by omega) (by omega)).mpr hh9)
                refine lv_bipush (v := 10) hx hb dX12_numeral_80 (by decide) ?_
                refine lv_iload_n hx hb dX12_numeral_82 rfl (lv_at hl 0 rfl) ?_
                refine lv_imul hx hb dX12_numeral_83 ?_
                refine lv_topi (fun z_152 ez_152 => ?_)
                refine lv_aload_n hx hb dX12_numeral_84 rfl (lv_at hl 1 rfl) ?_
                refine pl_get (ci := 12) (v := .ref x_45) (C := RX12) (T := TX12) (N := 32) hx hb hT iX12 hown hK hW hT_o.1 hSl rfl 9 (by decide) w1091 rfl dX12_numeral_85 ?_
                refine lv_aload_n hx hb dX12_numeral_88 rfl (lv_at hl 1 rfl) ?_
                refine pl_get (ci := 12) (v := .int (nI gs)) (C := RX12) (T := TX12) (N := 32) hx hb hT iX12 hown hK hW hT_o.1 hSl rfl 12 (by decide) w1094 rfl dX12_numeral_89 ?_
                refine pl_bald hx hb hK hW hT_x_45.1 hS_x_45 (vp_in_nI (n := gs) (N := 900) (by omega) (by omega)) dX12_numeral_92 ?_
                refine lv_topi (fun y_153 ey_153 => ?_)
                refine lv_iadd hx hb dX12_numeral_93 ?_
                refine lv_topi (fun z_154 ez_154 => ?_)
                refine lv_bipush (v := 48) hx hb dX12_numeral_94 (by decide) ?_
                refine lv_isub hx hb dX12_numeral_96 ?_
                refine lv_topi (fun z_155 ez_155 => ?_)
                refine lv_istore_n (lv' := [(3, .int z_155), (0, .ref o), (1, .int lo), (2, .int hi)]) hx hb dX12_numeral_97 rfl hl (by decide) rfl (fun ls hl => ?_)
                refine lv_aload_n hx hb dX12_numeral_98 rfl (lv_at hl 1 rfl) ?_
                refine lv_dup hx hb dX12_numeral_99 rfl ?_
                refine pl_get (ci := 12) (v := .int (nI gs)) (C := RX12) (T := TX12) (N := 32) hx hb hT iX12 hown hK hW hT_o.1 hSl rfl 12 (by decide) w1094 rfl dX12_numeral_100 ?_
                refine lv_iconst (v := 1) hx hb dX12_numeral_103 (by decide) ?_
                refine lv_iadd hx hb dX12_numeral_104 ?_
                refine lv_topi (fun z_156 ez_156 => ?_)
                obtain rfl : z_156 = nI (gs + 1) := ez_156.trans (nI_add (gs) (1))
                refine pl_put (ci := 12) (v := .int (nI (gs + 1))) (ty := .int) (C := RX12) (T := TX12) (N := 32) (fs' := [.ref rs, .ref x_37, .ref x_38, .ref x_39, .ref x_40, .int (nI pa), .int (nI ki), .int (nI x_43), .int x_44, .ref x_45, .int (nI (pr.2)), .int (nI sn), .int (nI (gs + 1)), .int wr, .int wa, .int sen, .int (nI (SK g sn sp)), .ref x_52, .ref x_53, .int (nI x_54), .ref x_55, .ref x_56, .ref x_57, .ref x_58, .ref x_59, .ref x_60, .ref x_61, .ref x_62, .ref x_63, .ref x_64, .ref x_65, .int (nI x_66)]) hx hb hT iX12 tyX12 tyX12_ok nmX12 hown hK hW hT_o.1 hSl rfl 12 (by decide) w1094 rfl (by decide +kernel) rfl rfl (Nat.le_of_ble_eq_true rfl) rfl dX12_numeral_105 (fun H locs S_157 e1 hW => ?_)
                have hTy := hTy.u12 e1 hT_o ⟨rs, x_37, x_38, x_39, x_40, pa, ki, x_43, x_44, x_45, sn, gs + 1, wr, wa, sen, nI (SK g sn sp), x_52, x_53, x_54, x_55, x_56, x_57, x_58, x_59, x_60, x_61, x_62, x_63, x_64, x_65, x_66, rfl, hT_x_1, hT_x_37, hT_x_38, hT_x_39, hT_x_40, (by omega), (by omega), (by omega), hT_x_45, (by show pr.2 ≤ 900; omega), (by omega), (by omega), hT_x_52, hT_x_53, (by omega), hT_x_55, hT_x_56, hT_x_57, hT_x_58, hT_x_59, hT_x_60, hT_x_61, hT_x_62, hT_x_63, hT_x_64, hT_x_65, (by omega)⟩
                have hS_x_10 := un e1 hT_x_10 hT_o (by decide) hS_x_10
                have hS_x_4 := un e1 hT_x_4 hT_o (by decide) hS_x_4
                have hS_x_45 := un e1 hT_x_45 hT_o (by decide) hS_x_45
                have hS_x_39 := un e1 hT_x_39 hT_o (by decide) hS_x_39
                have hws := (show wrs (.inr (12, [.ref rs, .ref x_37, .ref x_38, .ref x_39, .ref x_40, .int (nI pa), .int (nI ki), .int (nI x_43), .int x_44, .ref x_45, .int (nI (pr.2)), .int (nI sn), .int (nI (gs + 1)), .int wr, .int wa, .int sen, .int (nI (SK g sn sp)), .ref x_52, .ref x_53, .int (nI x_54), .ref x_55, .ref x_56, .ref x_57, .ref x_58, .ref x_59, .ref x_60, .ref x_61, .ref x_62, .ref x_63, .ref x_64, .ref x_65, .int (nI x_66)])) = wrs (S_71 o) from by rw [hSl]; rfl)
                have hFr := ufs hFr e1 hT_o (by decide) hws
                have hFl40 := ufs hFl40 e1 hT_o (by decide) hws
                have hSl := us e1
                refine lv_goto (tgt := 40) hx hb dX12_numeral_108 (by decide) ?_
                exact ih40 z_155 (gs + 1) _ _ _ ls (by omega) hSl (by omega) (by omega) (fun k a b => by by_cases e_ : k = gs; rw [e_]; exact ⟨by omega, by have q_ := hL_63; rw [ey_147, nI_clamp (by omega)] at q_; exact q_⟩; exact hdt k a (by omega)) (fun h => by have q_ := nv_s (hvl (by omega)) (by rw [ey_153, nI_clamp (by omega), show SK g sn sp + (gs - SK g sn sp) = gs from by omega]) (by rw [ey_153, nI_clamp (by omega)]; have q2 := hL_63; rw [ey_147, nI_clamp (by omega)] at q2; exact q2) ez_152 ez_154 ez_155; rw [show gs + 1 - SK g sn sp = gs - SK g sn sp + 1 from by omega]; exact q_) hTy hFr hFl40 hW (lv_sub hl [0, 1, 2, 3] rfl)
            · obtain ⟨rfl, hL_63⟩ := hc_
              refine lv_if_eq (tgt := 111) hx hb dX12_numeral_63 (by decide) (fun _ => ?_) (fun h => absurd (by decide) h)
              have hDT : DT g sn (SK g sn sp) = gs := DT_s (by omega) (by omega) hdt (fun z => hL_63 (by rw [ey_147, nI_clamp (by omega)]; exact z.2))
              have htk := tk3_y (p := sp) hg (by omega) (by rw [← hpk_]; exact hL_16)
              have hte : tke g sn sp = gs := htk.2.2.trans hDT
              refine lv_aload_n hx hb dX12_numeral_111 rfl (lv_at hl 1 rfl) ?_
              refine pl_get (ci := 12) (v := .int (nI gs)) (C := RX12) (T := TX12) (N := 32) hx hb hT iX12 hown hK hW hT_o.1 hSl rfl 12 (by decide) w1094 rfl dX12_numeral_112 ?_
              refine lv_aload_n hx hb dX12_numeral_115 rfl (lv_at hl 1 rfl) ?_
              refine pl_get (ci := 12) (v := .int (nI (SK g sn sp))) (C := RX12) (T := TX12) (N := 32) hx hb hT iX12 hown hK hW hT_o.1 hSl rfl 16 (by decide) w1098 rfl dX12_numeral_116 ?_
              refine lv_isub hx hb dX12_numeral_119 ?_
              refine lv_topi (fun z_158 ez_158 => ?_)
              obtain rfl : z_158 = nI (gs - (SK g sn sp)) := ez_158.trans (pk_sub (a := gs) (b := SK g sn sp) (by omega))
              refine lv_bipush (v := 8) hx hb dX12_numeral_120 (by decide) ?_
              refine lv_icmp_gt (tgt := 137) hx hb dX12_numeral_122 (by decide) (fun c_122 => ?_) (fun c_122 => ?_)
              · have c_122 : 8 < (gs - (SK g sn sp)) := (nI_ltI (a := 8) (b := gs - (SK g sn sp)) (by omega) (by omega)).mp c_122
                refine lv_aload_n hx hb dX12_numeral_137 rfl (lv_at hl 1 rfl) ?_
                refine lv_iconst (v := 2) hx hb dX12_numeral_138 (by decide) ?_
                refine lv_aload_n hx hb dX12_numeral_139 rfl (lv_at hl 1 rfl) ?_
                refine pl_get (ci := 12) (v := .int (nI (SK g sn sp))) (C := RX12) (T := TX12) (N := 32) hx hb hT iX12 hown hK hW hT_o.1 hSl rfl 16 (by decide) w1098 rfl dX12_numeral_140 ?_
                refine pl_callv (va_runV (As := [.int 2, .int (nI (SK g sn sp))]) (rest := []) ⟨hx, hb, hml, hown, hT⟩ (f_fails l dC dI cy L kap pr S_71 H.size o 2 (nI (SK g sn sp)) hTy hT_o g nm gs sn wr wa sen (nI (SK g sn sp)) pa ki rs ⟨MKi (sp := gs) (sn := sn) (pa := pa) (ki := ki) hSl rfl rfl rfl rfl rfl rfl (by omega) (by omega) (by omega) (by omega), inf_i hSl rfl, inf_i hSl rfl, inf_i hSl rfl, fld_i hSl rfl hS_x_45, lfd_i hSl rfl hS_x_39⟩ (by omega) hg) (cwV 2 hT (gV w1214 w1216 ws59 w14 w1217) rfl rfl rfl (by decide +kernel) ⟨(Nat.le_of_ble_eq_true rfl), (Nat.le_of_ble_eq_true rfl)⟩) ⟨pcN.blind, pl_recv hK hW hT_o.1 hSl rfl, pcN.pre hW.1 hK hW.2.1 hN (fun q h => absurd h List.not_mem_nil)⟩ rfl rfl hl.1 rfl (lv_room (Nat.le_of_ble_eq_true rfl)) dX12_numeral_143 ⟨(Nat.le_of_ble_eq_true rfl), (Nat.le_of_ble_eq_true rfl)⟩) hW hA0 hA (fun S_159 H locs hrel hW => ?_)
                obtain ⟨hTy, hF1, hx1⟩ := hrel
                have hFr := hFr.tr hF1 (by decide)
                have hFl40 := hFl40.tr hF1 (by decide)
                have hS_x_10 := hF1.at hT_x_10 (by decide) hS_x_10
                have hS_x_4 := hF1.at hT_x_4 (by decide) hS_x_4
                have hS_x_45 := hF1.at hT_x_45 (by decide) hS_x_45
                have hS_x_39 := hF1.at hT_x_39 (by decide) hS_x_39
                obtain ⟨wr160, wa160, hM160, hfa160, hfb160⟩ := hx1
                obtain ⟨x_161, x_162, x_163, x_164, x_165, x_166, x_167, x_168, x_169, x_170, x_171, x_172, x_173, x_174, x_175, x_176, x_177, x_178, x_179, x_180, x_181, x_182, x_183, x_184, x_185, x_186, x_187, x_188, x_189, x_190, x_191, hS_o, hT_x_161, hT_x_162, hT_x_163, hT_x_164, hT_x_165, hb_x_166, hb_x_167, hb_x_168, hT_x_170, hb_q2, hb_x_171, hb_x_172, hT_x_177, hT_x_178, hb_x_179, hT_x_180, hT_x_181, hT_x_182, hT_x_183, hT_x_184, hT_x_185, hT_x_186, hT_x_187, hT_x_188, hT_x_189, hT_x_190, hb_x_191⟩ := hTy.k12 hT_o
                have hb_q2 : pr.2 ≤ 900 := hb_q2
                have hS_o : S_159 o = .inr (12, [.ref x_161, .ref x_162, .ref x_163, .ref x_164, .ref x_165, .int (nI x_166), .int (nI x_167), .int (nI x_168), .int x_169, .ref x_170, .int (nI (pr.2)), .int (nI x_171), .int (nI x_172), .int x_173, .int x_174, .int x_175, .int x_176, .ref x_177, .ref x_178, .int (nI x_179), .ref x_180, .ref x_181, .ref x_182, .ref x_183, .ref x_184, .ref x_185, .ref x_186, .ref x_187, .ref x_188, .ref x_189, .ref x_190, .int (nI x_191)]) := hS_o
                obtain ⟨hMK_, h14_, h15_, h16_, h9_, h3_⟩ := hM160
                obtain ⟨e12_, e11_, e13_, e5_, e6_, e0_⟩ := MKe hMK_ hS_o rfl rfl rfl rfl rfl rfl (by omega) (by omega) (by omega) (by omega)
                subst e12_ e11_ e13_ e5_ e6_ e0_
                have e14_ := h14_.symm.trans (inf_i hS_o rfl)
                subst e14_
                have e15_ := h15_.symm.trans (inf_i hS_o rfl)
                subst e15_
                have e16_ := h16_.symm.trans (inf_i hS_o rfl)
                subst e16_
                obtain ⟨f_192, hS_x_170⟩ := hTy.k55 hT_x_170
                have e9_ := h9_.symm.trans (fld_i hS_o rfl hS_x_170)
                subst e9_
                obtain ⟨f_193, hS_x_164⟩ := hTy.k53 hT_x_164
                have e3_ := h3_.symm.trans (lfd_i hS_o rfl hS_x_164)
                subst e3_
                refine lv_aload_n hx hb dX12_numeral_146 rfl (lv_at hl 1 rfl) ?_
                refine pl_get (ci := 12) (v := .int wr160) (C := RX12) (T := TX12) (N := 32) hx hb hT iX12 hown hK hW hT_o.1 hS_o rfl 13 (by decide) w1095 rfl dX12_numeral_147 ?_
                refine lv_if_ne (tgt := 157) hx hb dX12_numeral_150 (by decide) (fun c_150 => ?_) (fun c_150 => ?_)
                · refine lv_iload_n hx hb dX12_numeral_157 rfl (lv_at hl 2 rfl) ?_
                  exact W.iret (v := lo) hx hb hr (fun t ht h9 => ⟨⟨lo, S_159, rfl, ⟨hTy, hFr, ⟨gs, _, _, _, ⟨MKi (sp := gs) (sn := sn) (pa := pa) (ki := ki) hS_o rfl rfl rfl rfl rfl rfl (by omega) (by omega) (by omega) (by omega), inf_i hS_o rfl, inf_i hS_o rfl, inf_i hS_o rfl, fld_i hS_o rfl hS_x_170, lfd_i hS_o rfl hS_x_164⟩, by omega, by rw [(nbc_2 (lo := lo) (hi := hi) htk.2.1 (by rw [hte]; exact fun z => absurd z.1 (by omega)))]; exact ERR_e c_4 (by decide) (hfb160 c_4), fun _ z => absurd z (by rw [(nbc_2 (lo := lo) (hi := hi) htk.2.1 (by rw [hte]; exact fun z => absurd z.1 (by omega)))]; decide)⟩⟩, by rw [ht]; exact hW.1, va_K.moved h9.alike hK, hW.2.1⟩, hW.2.2.F ht⟩) hW.2.2.2.2 dX12_numeral_158
                · refine lv_iload_n hx hb dX12_numeral_153 rfl (lv_at hl 0 rfl) ?_
                  refine lv_goto (tgt := 158) hx hb dX12_numeral_154 (by decide) ?_
                  exact W.iret (v := vl) hx hb hr (fun t ht h9 => ⟨⟨vl, S_159, rfl, ⟨hTy, hFr, ⟨gs, _, _, _, ⟨MKi (sp := gs) (sn := sn) (pa := pa) (ki := ki) hS_o rfl rfl rfl rfl rfl rfl (by omega) (by omega) (by omega) (by omega), inf_i hS_o rfl, inf_i hS_o rfl, inf_i hS_o rfl, fld_i hS_o rfl hS_x_170, lfd_i hS_o rfl hS_x_164⟩, by omega, by have q_ := (hfb160 c_4).1; rw [c_150] at q_; exact absurd q_ (by decide), fun _ _ => by have q_ := (hfb160 c_4).1; rw [c_150] at q_; exact absurd q_ (by decide)⟩⟩, by rw [ht]; exact hW.1, va_K.moved h9.alike hK, hW.2.1⟩, hW.2.2.F ht⟩) hW.2.2.2.2 dX12_numeral_158
              · have c_122 : ¬ (8 < (gs - (SK g sn sp))) := fun hh9 => c_122 ((nI_ltI (a := 8) (b := gs - (SK g sn sp)) (by omega) (by omega)).mpr hh9)
                refine lv_iload_n hx hb dX12_numeral_125 rfl (lv_at hl 0 rfl) ?_
                refine lv_i2l hx hb dX12_numeral_126 rfl ?_
                refine lv_topl (fun z_194 ez_194 => ?_)
                refine lv_iload_n hx hb dX12_numeral_127 rfl (lv_at hl 2 rfl) ?_
                refine lv_i2l hx hb dX12_numeral_128 rfl ?_
                refine lv_topl (fun z_195 ez_195 => ?_)
                refine lv_iload_n hx hb dX12_numeral_129 rfl (lv_at hl 3 rfl) ?_
                refine lv_i2l hx hb dX12_numeral_130 rfl ?_
                refine lv_topl (fun z_196 ez_196 => ?_)
                refine vp_callSi (va_Run.run (va_runS (As := [.long z_194, .long z_195, .long z_196]) (rest := []) ⟨hx, hb, hml, hown, hT⟩ (m_isIn l dC dI H.size z_194 z_195 z_196) (va_cwS 3 hT (gS w1187 w1188 w14 w1189) rfl rfl rfl (by decide +kernel) ⟨(Nat.le_of_ble_eq_true rfl), (Nat.le_of_ble_eq_true rfl)⟩) ⟨pcW.blind, pcW.pre (va_P0 _ _ _) (hK.sub (tys' := []) [] rfl) (va_D0 (fun _ => True))⟩ rfl rfl hl.1 rfl (lv_room (Nat.le_of_ble_eq_true rfl)) dX12_numeral_131 ⟨(Nat.le_of_ble_eq_true rfl), (Nat.le_of_ble_eq_true rfl)⟩)) (fun r_197 hr_197 => ?_)
                rcases isInc hr_197 with hc_ | hc_
                · obtain ⟨rfl, hin_⟩ := hc_
                  have hin9 := (in_6 ez_194 ez_195 ez_196).mp hin_
                  refine lv_if_ne (tgt := 146) hx hb dX12_numeral_134 (by decide) (fun _ => ?_) (fun h => absurd h (by decide))
                  refine lv_aload_n hx hb dX12_numeral_146 rfl (lv_at hl 1 rfl) ?_
                  refine pl_get (ci := 12) (v := .int wr) (C := RX12) (T := TX12) (N := 32) hx hb hT iX12 hown hK hW hT_o.1 hSl rfl 13 (by decide) w1095 rfl dX12_numeral_147 ?_
                  refine lv_if_ne (tgt := 157) hx hb dX12_numeral_150 (by decide) (fun c_150 => ?_) (fun c_150 => ?_)
                  · refine lv_iload_n hx hb dX12_numeral_157 rfl (lv_at hl 2 rfl) ?_
                    exact W.iret (v := lo) hx hb hr (fun t ht h9 => ⟨⟨lo, S_71, rfl, ⟨hTy, hFr, ⟨gs, _, _, _, ⟨MKi (sp := gs) (sn := sn) (pa := pa) (ki := ki) hSl rfl rfl rfl rfl rfl rfl (by omega) (by omega) (by omega) (by omega), inf_i hSl rfl, inf_i hSl rfl, inf_i hSl rfl, fld_i hSl rfl hS_x_45, lfd_i hSl rfl hS_x_39⟩, by omega, absurd c_4 c_150, fun _ _ => absurd c_4 c_150⟩⟩, by rw [ht]; exact hW.1, va_K.moved h9.alike hK, hW.2.1⟩, hW.2.2.F ht⟩) hW.2.2.2.2 dX12_numeral_158
                  · refine lv_iload_n hx hb dX12_numeral_153 rfl (lv_at hl 0 rfl) ?_
                    refine lv_goto (tgt := 158) hx hb dX12_numeral_154 (by decide) ?_
                    exact W.iret (v := vl) hx hb hr (fun t ht h9 => ⟨⟨vl, S_71, rfl, ⟨hTy, hFr, ⟨gs, _, _, _, ⟨MKi (sp := gs) (sn := sn) (pa := pa) (ki := ki) hSl rfl rfl rfl rfl rfl rfl (by omega) (by omega) (by omega) (by omega), inf_i hSl rfl, inf_i hSl rfl, inf_i hSl rfl, fld_i hSl rfl hS_x_45, lfd_i hSl rfl hS_x_39⟩, by omega, by rw [(nbc_0 (lo := lo) (hi := hi) htk.2.1 (by rw [hte, ← hvl (by omega)]; exact ⟨by omega, hin9⟩))]; exact ERR_0, fun _ _ => ⟨hte.symm, rfl, by rw [hte]; exact hvl (by omega)⟩⟩⟩, by rw [ht]; exact hW.1, va_K.moved h9.alike hK, hW.2.1⟩, hW.2.2.F ht⟩) hW.2.2.2.2 dX12_numeral_158
                · obtain ⟨rfl, hin_⟩ := hc_
                  have hin9 := fun q => hin_ ((in_6 ez_194 ez_195 ez_196).mpr q)
                  refine lv_if_ne (tgt := 146) hx hb dX12_numeral_134 (by decide) (fun h => absurd (by decide) h) (fun _ => ?_)
                  refine lv_aload_n hx hb dX12_numeral_137 rfl (lv_at hl 1 rfl) ?_
                  refine lv_iconst (v := 2) hx hb dX12_numeral_138 (by decide) ?_
                  refine lv_aload_n hx hb dX12_numeral_139 rfl (lv_at hl 1 rfl) ?_
                  refine pl_get (ci := 12) (v := .int (nI (SK g sn sp))) (C := RX12) (T := TX12) (N := 32) hx hb hT iX12 hown hK hW hT_o.1 hSl rfl 16 (by decide) w1098 rfl dX12_numeral_140 ?_
                  refine pl_callv (va_runV (As := [.int 2, .int (nI (SK g sn sp))]) (rest := []) ⟨hx, hb, hml, hown, hT⟩ (f_fails l dC dI cy L kap pr S_71 H.size o 2 (nI (SK g sn sp)) hTy hT_o g nm gs sn wr wa sen (nI (SK g sn sp)) pa ki rs ⟨MKi (sp := gs) (sn := sn) (pa := pa) (ki := ki) hSl rfl rfl rfl rfl rfl rfl (by omega) (by omega) (by omega) (by omega), inf_i hSl rfl, inf_i hSl rfl, inf_i hSl rfl, fld_i hSl rfl hS_x_45, lfd_i hSl rfl hS_x_39⟩ (by omega) hg) (cwV 2 hT (gV w1214 w1216 ws59 w14 w1217) rfl rfl rfl (by decide +kernel) ⟨(Nat.le_of_ble_eq_true rfl), (Nat.le_of_ble_eq_true rfl)⟩) ⟨pcN.blind, pl_recv hK hW hT_o.1 hSl rfl, pcN.pre hW.1 hK hW.2.1 hN (fun q h => absurd h List.not_mem_nil)⟩ rfl rfl hl.1 rfl (lv_room (Nat.le_of_ble_eq_true rfl)) dX12_numeral_143 ⟨(Nat.le_of_ble_eq_true rfl), (Nat.le_of_ble_eq_true rfl)⟩) hW hA0 hA (fun S_198 H locs hrel hW => ?_)
                  obtain ⟨hTy, hF1, hx1⟩ := hrel
                  have hFr := hFr.tr hF1 (by decide)
                  have hFl40 := hFl40.tr hF1 (by decide)
                  have hS_x_10 := hF1.at hT_x_10 (by decide) hS_x_10
                  have hS_x_4 := hF1.at hT_x_4 (by decide) hS_x_4
                  have hS_x_45 := hF1.at hT_x_45 (by decide) hS_x_45
                  have hS_x_39 := hF1.at hT_x_39 (by decide) hS_x_39
                  obtain ⟨wr199, wa199, hM199, hfa199, hfb199⟩ := hx1
                  obtain ⟨x_200, x_201, x_202, x_203, x_204, x_205, x_206, x_207, x_208, x_209, x_210, x_211, x_212, x_213, x_214, x_215, x_216, x_217, x_218, x_219, x_220, x_221, x_222, x_223, x_224, x_225, x_226, x_227, x_228, x_229, x_230, hS_o, hT_x_200, hT_x_201, hT_x_202, hT_x_203, hT_x_204, hb_x_205, hb_x_206, hb_x_207, hT_x_209, hb_q2, hb_x_210, hb_x_211, hT_x_216, hT_x_217, hb_x_218, hT_x_219, hT_x_220, hT_x_221, hT_x_222, hT_x_223, hT_x_224, hT_x_225, hT_x_226, hT_x_227, hT_x_228, hT_x_229, hb_x_230⟩ := hTy.k12 hT_o
                  have hb_q2 : pr.2 ≤ 900 := hb_q2
                  have hS_o : S_198 o = .inr (12, [.ref x_200, .ref x_201, .ref x_202, .ref x_203, .ref x_204, .int (nI x_205), .int (nI x_206), .int (nI x_207), .int x_208, .ref x_209, .int (nI (pr.2)), .int (nI x_210), .int (nI x_211), .int x_212, .int x_213, .int x_214, .int x_215, .ref x_216, .ref x_217, .int (nI x_218), .ref x_219, .ref x_220, .ref x_221, .ref x_222, .ref x_223, .ref x_224, .ref x_225, .ref x_226, .ref x_227, .ref x_228, .ref x_229, .int (nI x_230)]) := hS_o
                  obtain ⟨hMK_, h14_, h15_, h16_, h9_, h3_⟩ := hM199
                  obtain ⟨e12_, e11_, e13_, e5_, e6_, e0_⟩ := MKe hMK_ hS_o rfl rfl rfl rfl rfl rfl (by omega) (by omega) (by omega) (by omega)
                  subst e12_ e11_ e13_ e5_ e6_ e0_
                  have e14_ := h14_.symm.trans (inf_i hS_o rfl)
                  subst e14_
                  have e15_ := h15_.symm.trans (inf_i hS_o rfl)
                  subst e15_
                  have e16_ := h16_.symm.trans (inf_i hS_o rfl)
                  subst e16_
                  obtain ⟨f_231, hS_x_209⟩ := hTy.k55 hT_x_209
                  have e9_ := h9_.symm.trans (fld_i hS_o rfl hS_x_209)
                  subst e9_
                  obtain ⟨f_232, hS_x_203⟩ := hTy.k53 hT_x_203
                  have e3_ := h3_.symm.trans (lfd_i hS_o rfl hS_x_203)
                  subst e3_
                  refine lv_aload_n hx hb dX12_numeral_146 rfl (lv_at hl 1 rfl) ?_
                  refine pl_get (ci := 12) (v := .int wr199) (C := RX12) (T := TX12) (N := 32) hx hb hT iX12 hown hK hW hT_o.1 hS_o rfl 13 (by decide) w1095 rfl dX12_numeral_147 ?_
                  refine lv_if_ne (tgt := 157) hx hb dX12_numeral_150 (by decide) (fun c_150 => ?_) (fun c_150 => ?_)
                  · refine lv_iload_n hx hb dX12_numeral_157 rfl (lv_at hl 2 rfl) ?_
                    exact W.iret (v := lo) hx hb hr (fun t ht h9 => ⟨⟨lo, S_198, rfl, ⟨hTy, hFr, ⟨gs, _, _, _, ⟨MKi (sp := gs) (sn := sn) (pa := pa) (ki := ki) hS_o rfl rfl rfl rfl rfl rfl (by omega) (by omega) (by omega) (by omega), inf_i hS_o rfl, inf_i hS_o rfl, inf_i hS_o rfl, fld_i hS_o rfl hS_x_209, lfd_i hS_o rfl hS_x_203⟩, by omega, by rw [(nbc_2 (lo := lo) (hi := hi) htk.2.1 (by rw [hte]; exact fun z => hin9 (by rw [hvl z.1]; exact z.2)))]; exact ERR_e c_4 (by decide) (hfb199 c_4), fun _ z => absurd z (by rw [(nbc_2 (lo := lo) (hi := hi) htk.2.1 (by rw [hte]; exact fun z => hin9 (by rw [hvl z.1]; exact z.2)))]; decide)⟩⟩, by rw [ht]; exact hW.1, va_K.moved h9.alike hK, hW.2.1⟩, hW.2.2.F ht⟩) hW.2.2.2.2 dX12_numeral_158
                  · refine lv_iload_n hx hb dX12_numeral_153 rfl (lv_at hl 0 rfl) ?_
                    refine lv_goto (tgt := 158) hx hb dX12_numeral_154 (by decide) ?_
                    exact W.iret (v := vl) hx hb hr (fun t ht h9 => ⟨⟨vl, S_198, rfl, ⟨hTy, hFr, ⟨gs, _, _, _, ⟨MKi (sp := gs) (sn := sn) (pa := pa) (ki := ki) hS_o rfl rfl rfl rfl rfl rfl (by omega) (by omega) (by omega) (by omega), inf_i hS_o rfl, inf_i hS_o rfl, inf_i hS_o rfl, fld_i hS_o rfl hS_x_209, lfd_i hS_o rfl hS_x_203⟩, by omega, by have q_ := (hfb199 c_4).1; rw [c_150] at q_; exact absurd q_ (by decide), fun _ _ => by have q_ := (hfb199 c_4).1; rw [c_150] at q_; exact absurd q_ (by decide)⟩⟩, by rw [ht]; exact hW.1, va_K.moved h9.alike hK, hW.2.1⟩, hW.2.2.F ht⟩) hW.2.2.2.2 dX12_numeral_158
      exact loop ((901 - (SK g sn sp)) + 1) 0 (SK g sn sp) _ _ _ ls (Nat.lt_succ_self _) hS_o (by omega) (by omega) (fun k a b => by omega) (fun _ => by rw [Nat.sub_self]; rfl) hTy hFr Fr.rf hW (lv_sub hl [0, 1, 2, 3] rfl)
    · obtain ⟨rfl, hL_16⟩ := hc_
      refine lv_if_ne (tgt := 30) hx hb dX12_numeral_16 (by decide) (fun h => absurd (by decide) h) (fun _ => ?_)
      refine lv_aload_n hx hb dX12_numeral_19 rfl (lv_at hl 0 rfl) ?_
      refine lv_iconst (v := 1) hx hb dX12_numeral_20 (by decide) ?_
      refine lv_aload_n hx hb dX12_numeral_21 rfl (lv_at hl 0 rfl) ?_
      refine pl_get (ci := 12) (v := .int (nI (SK g sn sp))) (C := RX12) (T := TX12) (N := 32) hx hb hT iX12 hown hK hW hT_o.1 hS_o rfl 12 (by decide) w1094 rfl dX12_numeral_22 ?_
      refine pl_callv (va_runV (As := [.int 1, .int (nI (SK g sn sp))]) (rest := []) ⟨hx, hb, hml, hown, hT⟩ (f_fails l dC dI cy L kap pr S_34 H.size o 1 (nI (SK g sn sp)) hTy hT_o g nm (SK g sn sp) sn wr wa sen ra pa ki rs ⟨MKi (sp := (SK g sn sp)) (sn := sn) (pa := pa) (ki := ki) hS_o rfl rfl rfl rfl rfl rfl (by omega) (by omega) (by omega) (by omega), inf_i hS_o rfl, inf_i hS_o rfl, inf_i hS_o rfl, fld_i hS_o rfl hS_x_45, lfd_i hS_o rfl hS_x_39⟩ (by omega) hg) (cwV 2 hT (gV w1214 w1216 ws59 w14 w1217) rfl rfl rfl (by decide +kernel) ⟨(Nat.le_of_ble_eq_true rfl), (Nat.le_of_ble_eq_true rfl)⟩) ⟨pcN.blind, pl_recv hK hW hT_o.1 hS_o rfl, pcN.pre hW.1 hK hW.2.1 hN (fun q h => absurd h List.not_mem_nil)⟩ rfl rfl hl.1 rfl (lv_room (Nat.le_of_ble_eq_true rfl)) dX12_numeral_25 ⟨(Nat.le_of_ble_eq_true rfl), (Nat.le_of_ble_eq_true rfl)⟩) hW hA0 hA (fun S_233 H locs hrel hW => ?_)
      obtain ⟨hTy, hF1, hx1⟩ := hrel
      have hFr := hFr.tr hF1 (by decide)
      have hS_x_10 := hF1.at hT_x_10 (by decide) hS_x_10
      have hS_x_4 := hF1.at hT_x_4 (by decide) hS_x_4
      have hS_x_45 := hF1.at hT_x_45 (by decide) hS_x_45
      have hS_x_39 := hF1.at hT_x_39 (by decide) hS_x_39
      obtain ⟨wr234, wa234, hM234, hfa234, hfb234⟩ := hx1
      obtain ⟨x_235, x_236, x_237, x_238, x_239, x_240, x_241, x_242, x_243, x_244, x_245, x_246, x_247, x_248, x_249, x_250, x_251, x_252, x_253, x_254, x_255, x_256, x_257, x_258, x_259, x_260, x_261, x_262, x_263, x_264, x_265, hS_o, hT_x_235, hT_x_236, hT_x_237, hT_x_238, hT_x_239, hb_x_240, hb_x_241, hb_x_242, hT_x_244, hb_q2, hb_x_245, hb_x_246, hT_x_251, hT_x_252, hb_x_253, hT_x_254, hT_x_255, hT_x_256, hT_x_257, hT_x_258, hT_x_259, hT_x_260, hT_x_261, hT_x_262, hT_x_263, hT_x_264, hb_x_265⟩ := hTy.k12 hT_o
      have hb_q2 : pr.2 ≤ 900 := hb_q2
      have hS_o : S_233 o = .inr (12, [.ref x_235, .ref x_236, .ref x_237, .ref x_238, .ref x_239, .int (nI x_240), .int (nI x_241), .int (nI x_242), .int x_243, .ref x_244, .int (nI (pr.2)), .int (nI x_245), .int (nI x_246), .int x_247, .int x_248, .int x_249, .int x_250, .ref x_251, .ref x_252, .int (nI x_253), .ref x_254, .ref x_255, .ref x_256, .ref x_257, .ref x_258, .ref x_259, .ref x_260, .ref x_261, .ref x_262, .ref x_263, .ref x_264, .int (nI x_265)]) := hS_o
      obtain ⟨hMK_, h14_, h15_, h16_, h9_, h3_⟩ := hM234
      obtain ⟨e12_, e11_, e13_, e5_, e6_, e0_⟩ := MKe hMK_ hS_o rfl rfl rfl rfl rfl rfl (by omega) (by omega) (by omega) (by omega)
      subst e12_ e11_ e13_ e5_ e6_ e0_
      have e14_ := h14_.symm.trans (inf_i hS_o rfl)
      subst e14_
      have e15_ := h15_.symm.trans (inf_i hS_o rfl)
      subst e15_
      have e16_ := h16_.symm.trans (inf_i hS_o rfl)
      subst e16_
      obtain ⟨f_266, hS_x_244⟩ := hTy.k55 hT_x_244
      have e9_ := h9_.symm.trans (fld_i hS_o rfl hS_x_244)
      subst e9_
      obtain ⟨f_267, hS_x_238⟩ := hTy.k53 hT_x_238
      have e3_ := h3_.symm.trans (lfd_i hS_o rfl hS_x_238)
      subst e3_
      refine lv_iload_n hx hb dX12_numeral_28 rfl (lv_at hl 1 rfl) ?_
      exact W.iret (v := lo) hx hb hr (fun t ht h9 => ⟨⟨lo, S_233, rfl, ⟨hTy, hFr, ⟨SK g sn sp, _, _, _, ⟨MKi (sp := (SK g sn sp)) (sn := sn) (pa := pa) (ki := ki) hS_o rfl rfl rfl rfl rfl rfl (by omega) (by omega) (by omega) (by omega), inf_i hS_o rfl, inf_i hS_o rfl, inf_i hS_o rfl, fld_i hS_o rfl hS_x_244, lfd_i hS_o rfl hS_x_238⟩, by omega, by rw [nbc_1 (tk3_n hg (by omega) (by rw [← hpk_]; exact hL_16))]; exact ERR_e c_4 (by decide) (hfb234 c_4), fun _ z => absurd z (by rw [nbc_1 (tk3_n hg (by omega) (by rw [← hpk_]; exact hL_16))]; decide)⟩⟩, by rw [ht]; exact hW.1, va_K.moved h9.alike hK, hW.2.1⟩, hW.2.2.F ht⟩) hW.2.2.2.2 dX12_numeral_29
  · refine lv_iload_n hx hb dX12_numeral_7 rfl (lv_at hl 1 rfl) ?_
    exact W.iret (v := lo) hx hb hr (fun t ht h9 => ⟨⟨lo, S, rfl, ⟨hTy, hFr, ⟨sp, _, _, _, ⟨MKi (sp := sp) (sn := sn) (pa := pa) (ki := ki) hS_o rfl rfl rfl rfl rfl rfl (by omega) (by omega) (by omega) (by omega), inf_i hS_o rfl, inf_i hS_o rfl, inf_i hS_o rfl, fld_i hS_o rfl hS_x_10, lfd_i hS_o rfl hS_x_4⟩, by omega, ERR_k c_4, fun z => absurd z c_4⟩⟩, by rw [ht]; exact hW.1, va_K.moved h9.alike hK, hW.2.1⟩, hW.2.2.F ht⟩) hW.2.2.2.2 dX12_numeral_8

