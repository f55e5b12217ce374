/-- the reader's book: how many trades, which are kept -/
def BQ (S : Nat → va_E) (rb mn : Nat) (kf : Nat → Bool) : Prop := inf (S rb) 6 = nI mn ∧ mn ≤ 40 ∧ ∀ t, t < mn → fld S rb 4 t = (if kf t = true then 1 else 0)
theorem bk_up {f f1 : Nat → Int32} {mn v : Nat} {kf : Nat → Bool} {x : Int32} (h : ∀ t, t < mn → f t = (if kf t = true then 1 else 0)) (e : f1 = upd f (nI v).toNatClampNeg x) (hx : x = 1) (hv : v < 40) : ∀ t, t < mn → f1 t = (if ub kf v true t = true then 1 else 0) := fun t ht => by
  rw [nI_clamp (by omega)] at e
  subst e hx
  unfold ub
  by_cases q : t = v
  · rw [if_pos q, q, pk_us]
    rfl
  · rw [if_neg q, pk_un q]
    exact h t ht

set_option maxHeartbeats 4000000 in
set_option maxRecDepth 100000 in
theorem q_readKeep (l : Launch) (dC : Nat → ClassId) (dI : Nat → Nat → Nat) (cy : Nat → ClassId) (L : List Nat) (kap : Nat → Nat) (pr : Pr) (ad : (Nat → Nat) × (Nat → Nat)) (S : Nat → va_E) (sz : Nat) (o : Nat) (hTy : Ty cy L kap pr S) (hT_o : TK L kap o 6) (g : Nat → Int32) (fa : Int32) (pl : Int32) (rn : Nat) (rb : Nat) (rt : Nat) (en : Nat) (mt : Int32) (sp : Nat) (hQ : RQ S o g fa pl rn rb rt en mt (nI (tkc g en sp)) (SK g en sp) (tke g en sp)) (hp : sp ≤ en) (mn : Nat) (kf : Nat → Bool) (hBq : BQ S rb mn kf) : Met l yX6_readKeep (wT yX6_readKeep cX6_readKeep 2 none) ({ frames := 7, cells := 0, slots := 0, locals := 147 }) (pcS dC dI [.ref o] sz L S (cyT cy) NLs ad) (va_Qv (fun S' => Ty cy L kap pr S' ∧ Fr kap [6, 23] S S' ∧ (∃ fa' pl', RQ S' o g fa' pl' rn rb rt en mt (nI (tkc g en (tke g en (tke g en sp)))) (SK g en (tke g en (tke g en sp))) (tke g en (tke g en (tke g en sp))) ∧ ERR fa pl (fe (nbc g en (tke g en sp) 0 (pd mn), SK g en (tke g en sp)) (if kf (NV g (SK g en (tke g en sp)) (tke g en (tke g en sp) - SK g en (tke g en sp))) = true then ((5 : Nat), SK g en (tke g en sp)) else (0, 0))).1 (fe (nbc g en (tke g en sp) 0 (pd mn), SK g en (tke g en sp)) (if kf (NV g (SK g en (tke g en sp)) (tke g en (tke g en sp) - SK g en (tke g en sp))) = true then ((5 : Nat), SK g en (tke g en sp)) else (0, 0))).2 fa' pl' ∧ (fa' = 0 → BQ S' rb mn (ub kf (NV g (SK g en (tke g en sp)) (tke g en (tke g en sp) - SK g en (tke g en sp))) true)))) (fun S' t => pB dC dI (AL L sz) (va_pl L S') (cyT cy) t) (AL L sz)) 0 0 (AL L sz) := by
  refine Met.ofW (cc := cX6_readKeep) (maxL := 2) (ret := none) (by decide) rfl ?_
  intro p e s m args below meth c s₁ B hml hv
  obtain ⟨rfl, hsz, hP, hK, hD0, hN, hSTR⟩ := hv
  have hx := B.exec
  have hb := B.bytes
  have hr := B.returns
  have hT : ∀ wd ∈ TB, wd.before [.ref o].toArray s = true := fun wd h => atoms_spec (ws := wT yX6_readKeep cX6_readKeep 2 none) B.pre wd (List.mem_cons_of_mem _ h)
  have hown : s.vm.findClass RX6 = some m.cls := findClass_of_methodNamed B.named
  have hlocks := B.notSynchronized
  subst hsz
  have hW : PW dC dI L (AL L s.heap.size) s.heap S s.heap [] := ⟨hP, pl_self hD0, va_S.rf⟩
  have hA0 : ∀ q, q ∈ L → AL L s.heap.size q := fun _ h => Or.inl h
  have hA : ∀ q, s.heap.size ≤ q → AL L s.heap.size q := fun _ h => Or.inr h
  have hFr : Fr kap [6, 23] S S := Fr.rf
  have hl := lv_entry ([.ref o]) (n := 2) (Nat.le_of_ble_eq_true rfl)
  rw [lg_entry_eq]
  generalize (lg_sl ([.ref o]) ++ List.replicate (2 - (lg_sl ([.ref o])).length) Slot.unset).toArray = ls at hl ⊢
  have hl : lv_has ls 2 [(0, .ref o)] := hl
  obtain ⟨hS_o, hT_rn, hT_rb, hT_rt, hQg_, hen_, hta_, hte_⟩ := RQk hTy hT_o hQ
  obtain ⟨f_1, hS_rt⟩ := hTy.k27 hT_rt
  have eg_ := hQg_.symm.trans (af_i hS_rt)
  subst eg_
  have htkb_ := tkc_le (g := g) (n := en) (p := sp)
  have htb_ := tke_b (g := g) (n := en) (p := sp) (by omega) (by omega)
  obtain ⟨x_2, x_3, x_4, x_5, x_6, x_7, x_8, x_9, hS_rb, hT_x_2, hT_x_3, hT_x_4, hT_x_5, hT_x_6, hT_x_7, hb_x_8⟩ := hTy.k0 hT_rb
  obtain ⟨f_10, hS_x_6⟩ := hTy.k23 hT_x_6
  obtain ⟨hb6_, hb40_, hbk_⟩ := hBq
  obtain rfl : mn = x_8 := (nI_eq (by omega) (by omega)).mp (hb6_.symm.trans (inf_i hS_rb rfl))
  rw [fld_i hS_rb rfl hS_x_6] at hbk_
  have htb1_ := tke_b (g := g) (n := en) (p := tke g en sp) (by omega) (by omega)
  refine lv_aload_n hx hb dX6_readKeep_0 rfl (lv_at hl 0 rfl) ?_
  refine pl_callv (va_runV (As := []) (rest := []) ⟨hx, hb, hml, hown, hT⟩ (q_next l dC dI cy L kap pr ad S s.heap.size o hTy hT_o g fa pl rn rb rt en mt (nI (tkc g en sp)) (SK g en sp) (tke g en sp) ⟨hS_o, af_i hS_rt, by omega, by omega, by omega⟩ (by omega)) (cwV 0 hT (gV w420 w422 ws0 w3 w423) rfl rfl rfl (by decide +kernel) ⟨(Nat.le_of_ble_eq_true rfl), (Nat.le_of_ble_eq_true rfl)⟩) ⟨pcS.blind, pl_recv hK hW hT_o.1 hS_o rfl, pcS.pre hW.1 hK hW.2.1 hN hSTR hW.2.2⟩ rfl rfl hl.1 rfl (lv_room (Nat.le_of_ble_eq_true rfl)) dX6_readKeep_1 ⟨(Nat.le_of_ble_eq_true rfl), (Nat.le_of_ble_eq_true rfl)⟩) hW hA0 hA (fun S_11 H locs hrel hW => ?_)
  obtain ⟨hTy, hF1, hx1⟩ := hrel
  have hFr := hFr.tr hF1 (by decide)
  have hS_rt := hF1.at hT_rt (by decide) hS_rt
  have hS_rb := hF1.at hT_rb (by decide) hS_rb
  have hS_x_6 := hF1.at hT_x_6 (by decide) hS_x_6
  have htb_ := tke_b (g := g) (n := en) (p := tke g en sp) (by omega) (by omega)
  have hsg_ := SK_ge (g := g) (n := en) (i := tke g en sp)
  obtain ⟨hS_o, hT_rn, hT_rb, hT_rt, hQg_, hen_, hta_, hte_⟩ := RQk hTy hT_o hx1
  obtain ⟨f_12, hS_rt⟩ := hTy.k27 hT_rt
  have eg_ := hQg_.symm.trans (af_i hS_rt)
  subst eg_
  have htkb_ := tkc_le (g := g) (n := en) (p := tke g en sp)
  refine lv_aload_n hx hb dX6_readKeep_4 rfl (lv_at hl 0 rfl) ?_
  refine lv_iconst (v := 0) hx hb dX6_readKeep_5 (by decide) ?_
  refine lv_aload_n hx hb dX6_readKeep_6 rfl (lv_at hl 0 rfl) ?_
  refine pl_get (ci := 6) (v := .ref rb) (C := RX6) (T := TX6) (N := 10) hx hb hT iX6 hown hK hW hT_o.1 hS_o rfl 3 (by decide) w145 rfl dX6_readKeep_7 ?_
  refine pl_get (ci := 0) (v := .int (nI mn)) (C := RX0) (T := TX0) (N := 8) hx hb hT iX0 hown hK hW hT_rb.1 hS_rb rfl 6 (by decide) w115 rfl dX6_readKeep_10 ?_
  refine lv_iconst (v := 1) hx hb dX6_readKeep_13 (by decide) ?_
  refine lv_isub hx hb dX6_readKeep_14 ?_
  refine lv_topi (fun z_13 ez_13 => ?_)
  obtain rfl : z_13 = pd (mn) := ez_13
  refine pl_calli (va_runV (As := [.int 0, .int (pd mn)]) (rest := []) ⟨hx, hb, hml, hown, hT⟩ (q_numberWithin l dC dI cy L kap pr S_11 H.size o 0 (pd mn) hTy hT_o g fa pl rn rb rt en mt (tke g en sp) ⟨hS_o, af_i hS_rt, by omega, by omega, by omega⟩ (by omega)) (cwV 2 hT (gV w554 w556 ws15 w3 w557) rfl rfl rfl (by decide +kernel) ⟨(Nat.le_of_ble_eq_true rfl), (Nat.le_of_ble_eq_true rfl)⟩) ⟨pcN.blind, pl_recv hK hW hT_o.1 hS_o rfl, pcN.pre hW.1 hK hW.2.1 hN (fun q h => absurd h List.not_mem_nil)⟩ rfl rfl hl.1 rfl (lv_room (Nat.le_of_ble_eq_true rfl)) dX6_readKeep_15 ⟨(Nat.le_of_ble_eq_true rfl), (Nat.le_of_ble_eq_true rfl)⟩) hW hA0 hA (fun r_15 S_14 H locs hrel hW => ?_)
  obtain ⟨hTy, hF1, hx1⟩ := hrel
  have hFr := hFr.tr hF1 (by decide)
  have hS_rb := hF1.at hT_rb (by decide) hS_rb
  have hS_x_6 := hF1.at hT_x_6 (by decide) hS_x_6
  have hS_rt := hF1.at hT_rt (by decide) hS_rt
  obtain ⟨fa16, pl16, hQ16, hER16, hOK16⟩ := hx1
  obtain ⟨hS_o, hT_rn, hT_rb, hT_rt, hQg_, hen_, hta_, hte_⟩ := RQk hTy hT_o hQ16
  obtain ⟨f_17, hS_rt⟩ := hTy.k27 hT_rt
  have eg_ := hQg_.symm.trans (af_i hS_rt)
  subst eg_
  refine lv_istore_n (lv' := [(1, .int r_15), (0, .ref o)]) hx hb dX6_readKeep_18 rfl hl (by decide) rfl (fun ls hl => ?_)
  refine lv_aload_n hx hb dX6_readKeep_19 rfl (lv_at hl 1 rfl) ?_
  refine pl_get (ci := 6) (v := .int fa16) (C := RX6) (T := TX6) (N := 10) hx hb hT iX6 hown hK hW hT_o.1 hS_o rfl 0 (by decide) w139 rfl dX6_readKeep_20 ?_
  refine lv_if_ne (tgt := 43) hx hb dX6_readKeep_23 (by decide) (fun c_23 => ?_) (fun c_23 => ?_)
  · refine lv_aload_n hx hb dX6_readKeep_43 rfl (lv_at hl 1 rfl) ?_
    refine pl_get (ci := 6) (v := .int fa16) (C := RX6) (T := TX6) (N := 10) hx hb hT iX6 hown hK hW hT_o.1 hS_o rfl 0 (by decide) w139 rfl dX6_readKeep_44 ?_
    refine lv_if_ne (tgt := 60) hx hb dX6_readKeep_47 (by decide) (fun _ => ?_) (fun h => absurd h c_23)
    refine lv_aload_n hx hb dX6_readKeep_60 rfl (lv_at hl 1 rfl) ?_
    refine pl_callv (va_runV (As := []) (rest := []) ⟨hx, hb, hml, hown, hT⟩ (q_next l dC dI cy L kap pr ad S_14 H.size o hTy hT_o g fa16 pl16 rn rb rt en mt (nI (tkc g en (tke g en sp))) (SK g en (tke g en sp)) (tke g en (tke g en sp)) ⟨hS_o, af_i hS_rt, by omega, by omega, by omega⟩ (by omega)) (cwV 0 hT (gV w420 w422 ws0 w3 w423) rfl rfl rfl (by decide +kernel) ⟨(Nat.le_of_ble_eq_true rfl), (Nat.le_of_ble_eq_true rfl)⟩) ⟨pcS.blind, pl_recv hK hW hT_o.1 hS_o rfl, pcS.pre hW.1 hK hW.2.1 hN hSTR hW.2.2⟩ rfl rfl hl.1 rfl (lv_room (Nat.le_of_ble_eq_true rfl)) dX6_readKeep_61 ⟨(Nat.le_of_ble_eq_true rfl), (Nat.le_of_ble_eq_true rfl)⟩) hW hA0 hA (fun S_18 H locs hrel hW => ?_)
    obtain ⟨hTy, hF1, hx1⟩ := hrel
    have hFr := hFr.tr hF1 (by decide)
    have hS_rb := hF1.at hT_rb (by decide) hS_rb
    have hS_x_6 := hF1.at hT_x_6 (by decide) hS_x_6
    have hS_rt := hF1.at hT_rt (by decide) hS_rt
    have htb_ := tke_b (g := g) (n := en) (p := tke g en (tke g en sp)) (by omega) (by omega)
    have hsg_ := SK_ge (g := g) (n := en) (i := tke g en (tke g en sp))
    obtain ⟨hS_o, hT_rn, hT_rb, hT_rt, hQg_, hen_, hta_, hte_⟩ := RQk hTy hT_o hx1
    obtain ⟨f_19, hS_rt⟩ := hTy.k27 hT_rt
    have eg_ := hQg_.symm.trans (af_i hS_rt)
    subst eg_
    have htkb_ := tkc_le (g := g) (n := en) (p := tke g en (tke g en sp))
    exact W.vret hx hb hr (fun t ht h9 => ⟨⟨S_18, rfl, ⟨hTy, hFr, ⟨_, _, ⟨hS_o, af_i hS_rt, by omega, by omega, by omega⟩, ERR_t nbc_b hER16 (fun _ => ⟨rfl, rfl⟩) (fun a b => absurd (ERR_z hER16 a b).1 c_23), fun z => absurd z c_23⟩⟩, by rw [ht]; exact hW.1, va_K.moved h9.alike hK, hW.2.1⟩, hW.2.2.F ht⟩) hW.2.2.2.2 dX6_readKeep_64
  · have hz9 := nz_nnc hER16 nbc_b (z_ERR hER16 c_23) c_23
    have hvm_ := nbc_m hz9 hb40_
    obtain rfl : r_15 = nI (NV g (SK g en (tke g en sp)) (tke g en (tke g en sp) - SK g en (tke g en sp))) := hOK16 hz9
    refine lv_aload_n hx hb dX6_readKeep_26 rfl (lv_at hl 1 rfl) ?_
    refine pl_get (ci := 6) (v := .ref rb) (C := RX6) (T := TX6) (N := 10) hx hb hT iX6 hown hK hW hT_o.1 hS_o rfl 3 (by decide) w145 rfl dX6_readKeep_27 ?_
    refine pl_get (ci := 0) (v := .ref x_6) (C := RX0) (T := TX0) (N := 8) hx hb hT iX0 hown hK hW hT_rb.1 hS_rb rfl 4 (by decide) w108 rfl dX6_readKeep_30 ?_
    refine lv_iload_n hx hb dX6_readKeep_33 rfl (lv_at hl 0 rfl) ?_
    refine pl_zald hx hb hK hW hT_x_6.1 hS_x_6 (vp_in_nI (n := NV g (SK g en (tke g en sp)) (tke g en (tke g en sp) - SK g en (tke g en sp))) (N := 40) (by omega) (by omega)) dX6_readKeep_34 ?_
    refine lv_topi (fun y_20 ey_20 => ?_)
    have hkv_ : y_20 = (if kf (NV g (SK g en (tke g en sp)) (tke g en (tke g en sp) - SK g en (tke g en sp))) = true then 1 else 0) := by rw [ey_20, nI_clamp (by omega)]; exact hbk_ _ hvm_
    refine lv_if_eq (tgt := 43) hx hb dX6_readKeep_35 (by decide) (fun c_35 => ?_) (fun c_35 => ?_)
    · refine lv_aload_n hx hb dX6_readKeep_43 rfl (lv_at hl 1 rfl) ?_
      refine pl_get (ci := 6) (v := .int fa16) (C := RX6) (T := TX6) (N := 10) hx hb hT iX6 hown hK hW hT_o.1 hS_o rfl 0 (by decide) w139 rfl dX6_readKeep_44 ?_
      refine lv_if_ne (tgt := 60) hx hb dX6_readKeep_47 (by decide) (fun h => absurd c_23 h) (fun _ => ?_)
      refine lv_aload_n hx hb dX6_readKeep_50 rfl (lv_at hl 1 rfl) ?_
      refine pl_get (ci := 6) (v := .ref rb) (C := RX6) (T := TX6) (N := 10) hx hb hT iX6 hown hK hW hT_o.1 hS_o rfl 3 (by decide) w145 rfl dX6_readKeep_51 ?_
      refine pl_get (ci := 0) (v := .ref x_6) (C := RX0) (T := TX0) (N := 8) hx hb hT iX0 hown hK hW hT_rb.1 hS_rb rfl 4 (by decide) w108 rfl dX6_readKeep_54 ?_
      refine lv_iload_n hx hb dX6_readKeep_57 rfl (lv_at hl 0 rfl) ?_
      refine lv_iconst (v := 1) hx hb dX6_readKeep_58 (by decide) ?_
      refine pl_zast hx hb hK hW hT_x_6.1 hS_x_6 (vp_in_nI (n := NV g (SK g en (tke g en sp)) (tke g en (tke g en sp) - SK g en (tke g en sp))) (N := 40) (by omega) (by omega)) dX6_readKeep_59 (fun H locs f_22 S_21 ef_f_22 e1 hW => ?_)
      have hTy := hTy.u23 e1 hT_x_6 ⟨f_22, rfl⟩
      have hS_rb := un e1 hT_rb hT_x_6 (by decide) hS_rb
      have hS_o := un e1 hT_o hT_x_6 (by decide) hS_o
      have hS_rt := un e1 hT_rt hT_x_6 (by decide) hS_rt
      have hFr := uf hFr e1 hT_x_6 (by decide) (by decide)
      have hS_x_6 := us e1
      have hbk_ := bk_up hbk_ ef_f_22 rfl (by omega)
      refine lv_aload_n hx hb dX6_readKeep_60 rfl (lv_at hl 1 rfl) ?_
      refine pl_callv (va_runV (As := []) (rest := []) ⟨hx, hb, hml, hown, hT⟩ (q_next l dC dI cy L kap pr ad S_21 H.size o hTy hT_o g fa16 pl16 rn rb rt en mt (nI (tkc g en (tke g en sp))) (SK g en (tke g en sp)) (tke g en (tke g en sp)) ⟨hS_o, af_i hS_rt, by omega, by omega, by omega⟩ (by omega)) (cwV 0 hT (gV w420 w422 ws0 w3 w423) rfl rfl rfl (by decide +kernel) ⟨(Nat.le_of_ble_eq_true rfl), (Nat.le_of_ble_eq_true rfl)⟩) ⟨pcS.blind, pl_recv hK hW hT_o.1 hS_o rfl, pcS.pre hW.1 hK hW.2.1 hN hSTR hW.2.2⟩ rfl rfl hl.1 rfl (lv_room (Nat.le_of_ble_eq_true rfl)) dX6_readKeep_61 ⟨(Nat.le_of_ble_eq_true rfl), (Nat.le_of_ble_eq_true rfl)⟩) hW hA0 hA (fun S_23 H locs hrel hW => ?_)
      obtain ⟨hTy, hF1, hx1⟩ := hrel
      have hFr := hFr.tr hF1 (by decide)
      have hS_rb := hF1.at hT_rb (by decide) hS_rb
      have hS_x_6 := hF1.at hT_x_6 (by decide) hS_x_6
      have hS_rt := hF1.at hT_rt (by decide) hS_rt
      have htb_ := tke_b (g := g) (n := en) (p := tke g en (tke g en sp)) (by omega) (by omega)
      have hsg_ := SK_ge (g := g) (n := en) (i := tke g en (tke g en sp))
      obtain ⟨hS_o, hT_rn, hT_rb, hT_rt, hQg_, hen_, hta_, hte_⟩ := RQk hTy hT_o hx1
      obtain ⟨f_24, hS_rt⟩ := hTy.k27 hT_rt
      have eg_ := hQg_.symm.trans (af_i hS_rt)
      subst eg_
      have htkb_ := tkc_le (g := g) (n := en) (p := tke g en (tke g en sp))
      exact W.vret hx hb hr (fun t ht h9 => ⟨⟨S_23, rfl, ⟨hTy, hFr, ⟨_, _, ⟨hS_o, af_i hS_rt, by omega, by omega, by omega⟩, by rw [show (if kf (NV g (SK g en (tke g en sp)) (tke g en (tke g en sp) - SK g en (tke g en sp))) = true then ((5 : Nat), SK g en (tke g en sp)) else (0, 0)) = (0, 0) from (by by_cases q : kf (NV g (SK g en (tke g en sp)) (tke g en (tke g en sp) - SK g en (tke g en sp))) = true; rw [if_pos q, c_35] at hkv_; exact absurd hkv_ (by decide); exact if_neg q)]; exact ERR_t nbc_b hER16 (fun a => absurd c_23 a) (fun _ _ => ERR_0), fun _ => ⟨inf_i hS_rb rfl, by omega, by rw [fld_i hS_rb rfl hS_x_6]; exact hbk_⟩⟩⟩, by rw [ht]; exact hW.1, va_K.moved h9.alike hK, hW.2.1⟩, hW.2.2.F ht⟩) hW.2.2.2.2 dX6_readKeep_64
    · refine lv_aload_n hx hb dX6_readKeep_38 rfl (lv_at hl 1 rfl) ?_
      refine lv_iconst (v := 5) hx hb dX6_readKeep_39 (by decide) ?_
      refine pl_callv (va_runV (As := [.int 5]) (rest := []) ⟨hx, hb, hml, hown, hT⟩ (q_fail l dC dI cy L kap pr S_14 H.size o 5 hTy hT_o g fa16 pl16 rn rb rt en mt (nI (tkc g en (tke g en sp))) (SK g en (tke g en sp)) (tke g en (tke g en sp)) ⟨hS_o, af_i hS_rt, by omega, by omega, by omega⟩) (cwV 1 hT (gV w500 w502 ws5 w3 w503) rfl rfl rfl (by decide +kernel) ⟨(Nat.le_of_ble_eq_true rfl), (Nat.le_of_ble_eq_true rfl)⟩) ⟨pcN.blind, pl_recv hK hW hT_o.1 hS_o rfl, pcN.pre hW.1 hK hW.2.1 hN (fun q h => absurd h List.not_mem_nil)⟩ rfl rfl hl.1 rfl (lv_room (Nat.le_of_ble_eq_true rfl)) dX6_readKeep_40 ⟨(Nat.le_of_ble_eq_true rfl), (Nat.le_of_ble_eq_true rfl)⟩) hW hA0 hA (fun S_25 H locs hrel hW => ?_)
      obtain ⟨hTy, hF1, hx1⟩ := hrel
      have hFr := hFr.tr hF1 (by decide)
      have hS_rb := hF1.at hT_rb (by decide) hS_rb
      have hS_x_6 := hF1.at hT_x_6 (by decide) hS_x_6
      have hS_rt := hF1.at hT_rt (by decide) hS_rt
      obtain ⟨fa26, pl26, hQ26, hfa26, hfb26⟩ := hx1
      obtain ⟨hS_o, hT_rn, hT_rb, hT_rt, hQg_, hen_, hta_, hte_⟩ := RQk hTy hT_o hQ26
      obtain ⟨f_27, hS_rt⟩ := hTy.k27 hT_rt
      have eg_ := hQg_.symm.trans (af_i hS_rt)
      subst eg_
      refine lv_aload_n hx hb dX6_readKeep_43 rfl (lv_at hl 1 rfl) ?_
      refine pl_get (ci := 6) (v := .int fa26) (C := RX6) (T := TX6) (N := 10) hx hb hT iX6 hown hK hW hT_o.1 hS_o rfl 0 (by decide) w139 rfl dX6_readKeep_44 ?_
      refine lv_if_ne (tgt := 60) hx hb dX6_readKeep_47 (by decide) (fun _ => ?_) (fun h => absurd h (by rw [(hfb26 c_23).1]; decide))
      refine lv_aload_n hx hb dX6_readKeep_60 rfl (lv_at hl 1 rfl) ?_
      refine pl_callv (va_runV (As := []) (rest := []) ⟨hx, hb, hml, hown, hT⟩ (q_next l dC dI cy L kap pr ad S_25 H.size o hTy hT_o g fa26 pl26 rn rb rt en mt (nI (tkc g en (tke g en sp))) (SK g en (tke g en sp)) (tke g en (tke g en sp)) ⟨hS_o, af_i hS_rt, by omega, by omega, by omega⟩ (by omega)) (cwV 0 hT (gV w420 w422 ws0 w3 w423) rfl rfl rfl (by decide +kernel) ⟨(Nat.le_of_ble_eq_true rfl), (Nat.le_of_ble_eq_true rfl)⟩) ⟨pcS.blind, pl_recv hK hW hT_o.1 hS_o rfl, pcS.pre hW.1 hK hW.2.1 hN hSTR hW.2.2⟩ rfl rfl hl.1 rfl (lv_room (Nat.le_of_ble_eq_true rfl)) dX6_readKeep_61 ⟨(Nat.le_of_ble_eq_true rfl), (Nat.le_of_ble_eq_true rfl)⟩) hW hA0 hA (fun S_28 H locs hrel hW => ?_)
      obtain ⟨hTy, hF1, hx1⟩ := hrel
      have hFr := hFr.tr hF1 (by decide)
      have hS_rb := hF1.at hT_rb (by decide) hS_rb
      have hS_x_6 := hF1.at hT_x_6 (by decide) hS_x_6
      have hS_rt := hF1.at hT_rt (by decide) hS_rt
      have htb_ := tke_b (g := g) (n := en) (p := tke g en (tke g en sp)) (by omega) (by omega)
      have hsg_ := SK_ge (g := g) (n := en) (i := tke g en (tke g en sp))
      obtain ⟨hS_o, hT_rn, hT_rb, hT_rt, hQg_, hen_, hta_, hte_⟩ := RQk hTy hT_o hx1
      obtain ⟨f_29, hS_rt⟩ := hTy.k27 hT_rt
      have eg_ := hQg_.symm.trans (af_i hS_rt)
      subst eg_
      have htkb_ := tkc_le (g := g) (n := en) (p := tke g en (tke g en sp))
      exact W.vret hx hb hr (fun t ht h9 => ⟨⟨S_28, rfl, ⟨hTy, hFr, ⟨_, _, ⟨hS_o, af_i hS_rt, by omega, by omega, by omega⟩, by rw [show (if kf (NV g (SK g en (tke g en sp)) (tke g en (tke g en sp) - SK g en (tke g en sp))) = true then ((5 : Nat), SK g en (tke g en sp)) else (0, 0)) = (5, SK g en (tke g en sp)) from (by by_cases q : kf (NV g (SK g en (tke g en sp)) (tke g en (tke g en sp) - SK g en (tke g en sp))) = true; exact if_pos q; rw [if_neg q] at hkv_; exact absurd hkv_ c_35)]; exact ERR_t nbc_b hER16 (fun a => absurd c_23 a) (fun _ _ => ERR_f hfa26 hfb26 (show (5 : Nat) ≠ 0 from by decide)), fun z => absurd z (by rw [(hfb26 c_23).1]; decide)⟩⟩, by rw [ht]; exact hW.1, va_K.moved h9.alike hK, hW.2.1⟩, hW.2.2.F ht⟩) hW.2.2.2.2 dX6_readKeep_64

