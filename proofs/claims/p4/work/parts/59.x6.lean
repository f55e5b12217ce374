set_option maxHeartbeats 4000000 in
set_option maxRecDepth 100000 in
theorem q_readParty (l : Launch) (dC : Nat → ClassId) (dI : Nat → Nat → Nat) (cy : Nat → ClassId) (L : List Nat) (kap : Nat → Nat) (pr : Pr) (ad : (Nat → Nat) × (Nat → Nat)) (S : Nat → va_E) (sz : Nat) (o : Nat) (hTy : Ty cy L kap pr S) (hT_o : TK L kap o 6) (g : Nat → Int32) (fa : Int32) (pl : Int32) (rn : Nat) (rb : Nat) (rt : Nat) (en : Nat) (mt : Int32) (sp : Nat) (hQ : RQ S o g fa pl rn rb rt en mt (nI (tkc g en sp)) (SK g en sp) (tke g en sp)) (hp : sp ≤ en) (df : Nat → Nat × Nat) (np : Nat) (nk : Nat) (hNq : NQ S g df rn np nk) (hg : BR g) : Met l yX6_readParty (wT yX6_readParty cX6_readParty 1 none) ({ frames := 7, cells := 0, slots := 0, locals := 147 }) (pcS dC dI [.ref o] sz L S (cyT cy) NLs ad) (va_Qv (fun S' => Ty cy L kap pr S' ∧ Fr kap [3, 6, 25, 26] S S' ∧ (∃ fa' pl', RQ S' o g fa' pl' rn rb rt en mt (nI (tkc g en (tke g en (tke g en sp)))) (SK g en (tke g en (tke g en sp))) (tke g en (tke g en (tke g en sp))) ∧ ERR fa pl (fe (FU (decide (np = 8)) (SK g en sp)) (nnc g en df np nk (tke g en sp), SK g en (tke g en sp))).1 (fe (FU (decide (np = 8)) (SK g en sp)) (nnc g en df np nk (tke g en sp), SK g en (tke g en sp))).2 fa' pl' ∧ (fa' = 0 → NQ S' g (ud df np (SK g en (tke g en sp), tke g en (tke g en sp) - SK g en (tke g en sp))) rn (np + 1) nk))) (fun S' t => pB dC dI (AL L sz) (va_pl L S') (cyT cy) t) (AL L sz)) 0 0 (AL L sz) := by
  refine Met.ofW (cc := cX6_readParty) (maxL := 1) (ret := none) (by decide) rfl ?_
  intro p e s m args below meth c s₁ B hml hv
  obtain ⟨rfl, hsz, hP, hK, hD0, hN, hSTR⟩ := hv
  have hx := B.exec
  have hb := B.bytes
  have hr := B.returns
  have hT : ∀ wd ∈ TB, wd.before [.ref o].toArray s = true := fun wd h => atoms_spec (ws := wT yX6_readParty cX6_readParty 1 none) B.pre wd (List.mem_cons_of_mem _ h)
  have hown : s.vm.findClass RX6 = some m.cls := findClass_of_methodNamed B.named
  have hlocks := B.notSynchronized
  subst hsz
  have hW : PW dC dI L (AL L s.heap.size) s.heap S s.heap [] := ⟨hP, pl_self hD0, va_S.rf⟩
  have hA0 : ∀ q, q ∈ L → AL L s.heap.size q := fun _ h => Or.inl h
  have hA : ∀ q, s.heap.size ≤ q → AL L s.heap.size q := fun _ h => Or.inr h
  have hFr : Fr kap [3, 6, 25, 26] S S := Fr.rf
  have hl := lv_entry ([.ref o]) (n := 1) (Nat.le_of_ble_eq_true rfl)
  rw [lg_entry_eq]
  generalize (lg_sl ([.ref o]) ++ List.replicate (1 - (lg_sl ([.ref o])).length) Slot.unset).toArray = ls at hl ⊢
  have hl : lv_has ls 1 [(0, .ref o)] := hl
  obtain ⟨hS_o, hT_rn, hT_rb, hT_rt, hQg_, hen_, hta_, hte_⟩ := RQk hTy hT_o hQ
  obtain ⟨f_1, hS_rt⟩ := hTy.k27 hT_rt
  have eg_ := hQg_.symm.trans (af_i hS_rt)
  subst eg_
  have htkb_ := tkc_le (g := g) (n := en) (p := sp)
  have htb_ := tke_b (g := g) (n := en) (p := sp) (by omega) (by omega)
  obtain ⟨x_2, x_3, x_4, x_5, hS_rn, hT_x_2, hT_x_3, hb_x_4, hb_x_5⟩ := hTy.k3 hT_rn
  obtain ⟨hn2_, hn3_, hnp_, hnk_, hN0, hN8⟩ := hNq
  obtain rfl : np = x_4 := (nI_eq (by omega) (by omega)).mp (hn2_.symm.trans (inf_i hS_rn rfl))
  obtain rfl : nk = x_5 := (nI_eq (by omega) (by omega)).mp (hn3_.symm.trans (inf_i hS_rn rfl))
  obtain ⟨f_6, hS_x_2⟩ := hTy.k25 hT_x_2
  obtain ⟨f_7, hS_x_3, hi_f_7⟩ := hTy.k26 hT_x_3
  rw [fld_i hS_rn rfl hS_x_2, fld_i hS_rn rfl hS_x_3] at hN0
  rw [fld_i hS_rn rfl hS_x_2, fld_i hS_rn rfl hS_x_3] at hN8
  have htb1_ := tke_b (g := g) (n := en) (p := tke g en sp) (by omega) (by omega)
  refine lv_aload_n hx hb dX6_readParty_0 rfl (lv_at hl 0 rfl) ?_
  refine pl_get (ci := 6) (v := .ref rn) (C := RX6) (T := TX6) (N := 10) hx hb hT iX6 hown hK hW hT_o.1 hS_o rfl 2 (by decide) w143 rfl dX6_readParty_1 ?_
  refine pl_get (ci := 3) (v := .int (nI np)) (C := RX3) (T := TX3) (N := 4) hx hb hT iX3 hown hK hW hT_rn.1 hS_rn rfl 2 (by decide) w63 rfl dX6_readParty_4 ?_
  refine lv_bipush (v := 8) hx hb dX6_readParty_7 (by decide) ?_
  refine lv_icmp_lt (tgt := 17) hx hb dX6_readParty_9 (by decide) (fun c_9 => ?_) (fun c_9 => ?_)
  · have c_9 : np < 8 := (nI_ltI (a := np) (b := 8) (by omega) (by omega)).mp c_9
    refine lv_aload_n hx hb dX6_readParty_17 rfl (lv_at hl 0 rfl) ?_
    refine pl_callv (va_runV (As := []) (rest := []) ⟨hx, hb, hml, hown, hT⟩ (q_next l dC dI cy L kap pr ad S s.heap.size o hTy hT_o g fa pl rn rb rt en mt (nI (tkc g en sp)) (SK g en sp) (tke g en sp) ⟨hS_o, af_i hS_rt, by omega, by omega, by omega⟩ (by omega)) (cwV 0 hT (gV w420 w422 ws0 w3 w423) rfl rfl rfl (by decide +kernel) ⟨(Nat.le_of_ble_eq_true rfl), (Nat.le_of_ble_eq_true rfl)⟩) ⟨pcS.blind, pl_recv hK hW hT_o.1 hS_o rfl, pcS.pre hW.1 hK hW.2.1 hN hSTR hW.2.2⟩ rfl rfl hl.1 rfl (lv_room (Nat.le_of_ble_eq_true rfl)) dX6_readParty_18 ⟨(Nat.le_of_ble_eq_true rfl), (Nat.le_of_ble_eq_true rfl)⟩) hW hA0 hA (fun S_8 H locs hrel hW => ?_)
    obtain ⟨hTy, hF1, hx1⟩ := hrel
    have hFr := hFr.tr hF1 (by decide)
    have hS_rt := hF1.at hT_rt (by decide) hS_rt
    have hS_rn := hF1.at hT_rn (by decide) hS_rn
    have hS_x_2 := hF1.at hT_x_2 (by decide) hS_x_2
    have hS_x_3 := hF1.at hT_x_3 (by decide) hS_x_3
    have htb_ := tke_b (g := g) (n := en) (p := tke g en sp) (by omega) (by omega)
    have hsg_ := SK_ge (g := g) (n := en) (i := tke g en sp)
    obtain ⟨hS_o, hT_rn, hT_rb, hT_rt, hQg_, hen_, hta_, hte_⟩ := RQk hTy hT_o hx1
    obtain ⟨f_9, hS_rt⟩ := hTy.k27 hT_rt
    have eg_ := hQg_.symm.trans (af_i hS_rt)
    subst eg_
    have htkb_ := tkc_le (g := g) (n := en) (p := tke g en sp)
    refine lv_aload_n hx hb dX6_readParty_21 rfl (lv_at hl 0 rfl) ?_
    refine pl_callv (va_runV (As := []) (rest := []) ⟨hx, hb, hml, hown, hT⟩ (q_checkNewName l dC dI cy L kap pr S_8 H.size o hTy hT_o g fa pl rn rb rt en mt (tke g en sp) ⟨hS_o, af_i hS_rt, by omega, by omega, by omega⟩ (by omega) df np nk ⟨inf_i hS_rn rfl, inf_i hS_rn rfl, by omega, by omega, by rw [fld_i hS_rn rfl hS_x_2, fld_i hS_rn rfl hS_x_3]; exact hN0, by rw [fld_i hS_rn rfl hS_x_2, fld_i hS_rn rfl hS_x_3]; exact hN8⟩) (cwV 0 hT (gV w504 w506 ws6 w3 w507) rfl rfl rfl (by decide +kernel) ⟨(Nat.le_of_ble_eq_true rfl), (Nat.le_of_ble_eq_true rfl)⟩) ⟨pcN.blind, pl_recv hK hW hT_o.1 hS_o rfl, pcN.pre hW.1 hK hW.2.1 hN (fun q h => absurd h List.not_mem_nil)⟩ rfl rfl hl.1 rfl (lv_room (Nat.le_of_ble_eq_true rfl)) dX6_readParty_22 ⟨(Nat.le_of_ble_eq_true rfl), (Nat.le_of_ble_eq_true rfl)⟩) hW hA0 hA (fun S_10 H locs hrel hW => ?_)
    obtain ⟨hTy, hF1, hx1⟩ := hrel
    have hFr := hFr.tr hF1 (by decide)
    have hS_rn := hF1.at hT_rn (by decide) hS_rn
    have hS_x_2 := hF1.at hT_x_2 (by decide) hS_x_2
    have hS_x_3 := hF1.at hT_x_3 (by decide) hS_x_3
    have hS_rt := hF1.at hT_rt (by decide) hS_rt
    obtain ⟨fa11, pl11, hQ11, hER11⟩ := hx1
    obtain ⟨hS_o, hT_rn, hT_rb, hT_rt, hQg_, hen_, hta_, hte_⟩ := RQk hTy hT_o hQ11
    obtain ⟨f_12, hS_rt⟩ := hTy.k27 hT_rt
    have eg_ := hQg_.symm.trans (af_i hS_rt)
    subst eg_
    refine lv_aload_n hx hb dX6_readParty_25 rfl (lv_at hl 0 rfl) ?_
    refine pl_get (ci := 6) (v := .int fa11) (C := RX6) (T := TX6) (N := 10) hx hb hT iX6 hown hK hW hT_o.1 hS_o rfl 0 (by decide) w139 rfl dX6_readParty_26 ?_
    refine lv_if_ne (tgt := 56) hx hb dX6_readParty_29 (by decide) (fun c_29 => ?_) (fun c_29 => ?_)
    · refine lv_aload_n hx hb dX6_readParty_56 rfl (lv_at hl 0 rfl) ?_
      refine pl_callv (va_runV (As := []) (rest := []) ⟨hx, hb, hml, hown, hT⟩ (q_next l dC dI cy L kap pr ad S_10 H.size o hTy hT_o g fa11 pl11 rn rb rt en mt (nI (tkc g en (tke g en sp))) (SK g en (tke g en sp)) (tke g en (tke g en sp)) ⟨hS_o, af_i hS_rt, by omega, by omega, by omega⟩ (by omega)) (cwV 0 hT (gV w420 w422 ws0 w3 w423) rfl rfl rfl (by decide +kernel) ⟨(Nat.le_of_ble_eq_true rfl), (Nat.le_of_ble_eq_true rfl)⟩) ⟨pcS.blind, pl_recv hK hW hT_o.1 hS_o rfl, pcS.pre hW.1 hK hW.2.1 hN hSTR hW.2.2⟩ rfl rfl hl.1 rfl (lv_room (Nat.le_of_ble_eq_true rfl)) dX6_readParty_57 ⟨(Nat.le_of_ble_eq_true rfl), (Nat.le_of_ble_eq_true rfl)⟩) hW hA0 hA (fun S_13 H locs hrel hW => ?_)
      obtain ⟨hTy, hF1, hx1⟩ := hrel
      have hFr := hFr.tr hF1 (by decide)
      have hS_rn := hF1.at hT_rn (by decide) hS_rn
      have hS_x_2 := hF1.at hT_x_2 (by decide) hS_x_2
      have hS_x_3 := hF1.at hT_x_3 (by decide) hS_x_3
      have hS_rt := hF1.at hT_rt (by decide) hS_rt
      have htb_ := tke_b (g := g) (n := en) (p := tke g en (tke g en sp)) (by omega) (by omega)
      have hsg_ := SK_ge (g := g) (n := en) (i := tke g en (tke g en sp))
      obtain ⟨hS_o, hT_rn, hT_rb, hT_rt, hQg_, hen_, hta_, hte_⟩ := RQk hTy hT_o hx1
      obtain ⟨f_14, hS_rt⟩ := hTy.k27 hT_rt
      have eg_ := hQg_.symm.trans (af_i hS_rt)
      subst eg_
      have htkb_ := tkc_le (g := g) (n := en) (p := tke g en (tke g en sp))
      exact W.vret hx hb hr (fun t ht h9 => ⟨⟨S_13, rfl, ⟨hTy, hFr, ⟨_, _, ⟨hS_o, af_i hS_rt, by omega, by omega, by omega⟩, by rw [show FU (decide (np = 8)) (SK g en sp) = (0, 0) from if_neg (fun z => by have z := of_decide_eq_true z; omega)]; exact ERR_2 (show 0 < 100 from by decide) ERR_0 hER11, fun z => absurd z c_29⟩⟩, by rw [ht]; exact hW.1, va_K.moved h9.alike hK, hW.2.1⟩, hW.2.2.F ht⟩) hW.2.2.2.2 dX6_readParty_60
    · have hzn := nz_nnc hER11 nnc_b (z_ERR hER11 c_29) c_29
      have hnok := NOK_t (nnc_4 hzn) (by omega)
      refine lv_aload_n hx hb dX6_readParty_32 rfl (lv_at hl 0 rfl) ?_
      refine pl_get (ci := 6) (v := .ref rn) (C := RX6) (T := TX6) (N := 10) hx hb hT iX6 hown hK hW hT_o.1 hS_o rfl 2 (by decide) w143 rfl dX6_readParty_33 ?_
      refine lv_aload_n hx hb dX6_readParty_36 rfl (lv_at hl 0 rfl) ?_
      refine pl_get (ci := 6) (v := .ref rt) (C := RX6) (T := TX6) (N := 10) hx hb hT iX6 hown hK hW hT_o.1 hS_o rfl 4 (by decide) w147 rfl dX6_readParty_37 ?_
      refine lv_aload_n hx hb dX6_readParty_40 rfl (lv_at hl 0 rfl) ?_
      refine pl_get (ci := 6) (v := .int (nI (SK g en (tke g en sp)))) (C := RX6) (T := TX6) (N := 10) hx hb hT iX6 hown hK hW hT_o.1 hS_o rfl 8 (by decide) w151 rfl dX6_readParty_41 ?_
      refine lv_aload_n hx hb dX6_readParty_44 rfl (lv_at hl 0 rfl) ?_
      refine pl_get (ci := 6) (v := .int (nI (tke g en (tke g en sp)))) (C := RX6) (T := TX6) (N := 10) hx hb hT iX6 hown hK hW hT_o.1 hS_o rfl 9 (by decide) w152 rfl dX6_readParty_45 ?_
      refine lv_aload_n hx hb dX6_readParty_48 rfl (lv_at hl 0 rfl) ?_
      refine pl_get (ci := 6) (v := .int (nI (SK g en (tke g en sp)))) (C := RX6) (T := TX6) (N := 10) hx hb hT iX6 hown hK hW hT_o.1 hS_o rfl 8 (by decide) w151 rfl dX6_readParty_49 ?_
      refine lv_isub hx hb dX6_readParty_52 ?_
      refine lv_topi (fun z_15 ez_15 => ?_)
      obtain rfl : z_15 = nI ((tke g en (tke g en sp)) - (SK g en (tke g en sp))) := ez_15.trans (pk_sub (a := tke g en (tke g en sp)) (b := SK g en (tke g en sp)) (by omega))
      refine pl_callv (va_runV (As := [.ref rt, .int (nI (SK g en (tke g en sp))), .int (nI ((tke g en (tke g en sp)) - (SK g en (tke g en sp))))]) (rest := []) ⟨hx, hb, hml, hown, hT⟩ (q_appendParty l dC dI cy L kap pr S_10 H.size rn rt (SK g en (tke g en sp)) ((tke g en (tke g en sp)) - (SK g en (tke g en sp))) hTy hT_rn hT_rt (by omega) (by omega) g df np nk (af_i hS_rt) hg ⟨inf_i hS_rn rfl, inf_i hS_rn rfl, by omega, by omega, by rw [fld_i hS_rn rfl hS_x_2, fld_i hS_rn rfl hS_x_3]; exact hN0, by rw [fld_i hS_rn rfl hS_x_2, fld_i hS_rn rfl hS_x_3]; exact hN8⟩ (by omega) hnok) (cwV 3 hT (gV w524 w525 w526 w4 w527) rfl rfl rfl (by decide +kernel) ⟨(Nat.le_of_ble_eq_true rfl), (Nat.le_of_ble_eq_true rfl)⟩) ⟨pcN.blind, pl_recv hK hW hT_rn.1 hS_rn rfl, pcN.pre hW.1 hK hW.2.1 hN (fun q h => absurd h List.not_mem_nil)⟩ rfl rfl hl.1 rfl (lv_room (Nat.le_of_ble_eq_true rfl)) dX6_readParty_53 ⟨(Nat.le_of_ble_eq_true rfl), (Nat.le_of_ble_eq_true rfl)⟩) hW hA0 hA (fun S_16 H locs hrel hW => ?_)
      obtain ⟨hTy, hF1, hx1⟩ := hrel
      have hFr := hFr.tr hF1 (by decide)
      have hS_o := hF1.at hT_o (by decide) hS_o
      have hS_rt := hF1.at hT_rt (by decide) hS_rt
      obtain ⟨x_17, x_18, x_19, x_20, hS_rn, hT_x_17, hT_x_18, hb_x_19, hb_x_20⟩ := hTy.k3 hT_rn
      obtain ⟨hn2_, hn3_, hnp_, hnk_, hN0, hN8⟩ := hx1
      obtain rfl : x_19 = np + 1 := ((nI_eq (by omega) (by omega)).mp (hn2_.symm.trans (inf_i hS_rn rfl))).symm
      obtain rfl : nk = x_20 := (nI_eq (by omega) (by omega)).mp (hn3_.symm.trans (inf_i hS_rn rfl))
      obtain ⟨f_21, hS_x_17⟩ := hTy.k25 hT_x_17
      obtain ⟨f_22, hS_x_18, hi_f_22⟩ := hTy.k26 hT_x_18
      rw [fld_i hS_rn rfl hS_x_17, fld_i hS_rn rfl hS_x_18] at hN0
      rw [fld_i hS_rn rfl hS_x_17, fld_i hS_rn rfl hS_x_18] at hN8
      refine lv_aload_n hx hb dX6_readParty_56 rfl (lv_at hl 0 rfl) ?_
      refine pl_callv (va_runV (As := []) (rest := []) ⟨hx, hb, hml, hown, hT⟩ (q_next l dC dI cy L kap pr ad S_16 H.size o hTy hT_o g fa11 pl11 rn rb rt en mt (nI (tkc g en (tke g en sp))) (SK g en (tke g en sp)) (tke g en (tke g en sp)) ⟨hS_o, af_i hS_rt, by omega, by omega, by omega⟩ (by omega)) (cwV 0 hT (gV w420 w422 ws0 w3 w423) rfl rfl rfl (by decide +kernel) ⟨(Nat.le_of_ble_eq_true rfl), (Nat.le_of_ble_eq_true rfl)⟩) ⟨pcS.blind, pl_recv hK hW hT_o.1 hS_o rfl, pcS.pre hW.1 hK hW.2.1 hN hSTR hW.2.2⟩ rfl rfl hl.1 rfl (lv_room (Nat.le_of_ble_eq_true rfl)) dX6_readParty_57 ⟨(Nat.le_of_ble_eq_true rfl), (Nat.le_of_ble_eq_true rfl)⟩) hW hA0 hA (fun S_23 H locs hrel hW => ?_)
      obtain ⟨hTy, hF1, hx1⟩ := hrel
      have hFr := hFr.tr hF1 (by decide)
      have hS_rt := hF1.at hT_rt (by decide) hS_rt
      have hS_rn := hF1.at hT_rn (by decide) hS_rn
      have hS_x_17 := hF1.at hT_x_17 (by decide) hS_x_17
      have hS_x_18 := hF1.at hT_x_18 (by decide) hS_x_18
      have htb_ := tke_b (g := g) (n := en) (p := tke g en (tke g en sp)) (by omega) (by omega)
      have hsg_ := SK_ge (g := g) (n := en) (i := tke g en (tke g en sp))
      obtain ⟨hS_o, hT_rn, hT_rb, hT_rt, hQg_, hen_, hta_, hte_⟩ := RQk hTy hT_o hx1
      obtain ⟨f_24, hS_rt⟩ := hTy.k27 hT_rt
      have eg_ := hQg_.symm.trans (af_i hS_rt)
      subst eg_
      have htkb_ := tkc_le (g := g) (n := en) (p := tke g en (tke g en sp))
      exact W.vret hx hb hr (fun t ht h9 => ⟨⟨S_23, rfl, ⟨hTy, hFr, ⟨_, _, ⟨hS_o, af_i hS_rt, by omega, by omega, by omega⟩, by rw [show FU (decide (np = 8)) (SK g en sp) = (0, 0) from if_neg (fun z => by have z := of_decide_eq_true z; omega)]; exact ERR_2 (show 0 < 100 from by decide) ERR_0 hER11, fun _ => ⟨inf_i hS_rn rfl, inf_i hS_rn rfl, by omega, by omega, by rw [fld_i hS_rn rfl hS_x_17, fld_i hS_rn rfl hS_x_18]; exact hN0, by rw [fld_i hS_rn rfl hS_x_17, fld_i hS_rn rfl hS_x_18]; exact hN8⟩⟩⟩, by rw [ht]; exact hW.1, va_K.moved h9.alike hK, hW.2.1⟩, hW.2.2.F ht⟩) hW.2.2.2.2 dX6_readParty_60
  · have c_9 : ¬ (np < 8) := fun hh9 => c_9 ((nI_ltI (a := np) (b := 8) (by omega) (by omega)).mpr hh9)
    refine lv_aload_n hx hb dX6_readParty_12 rfl (lv_at hl 0 rfl) ?_
    refine lv_iconst (v := 4) hx hb dX6_readParty_13 (by decide) ?_
    refine pl_callv (va_runV (As := [.int 4]) (rest := []) ⟨hx, hb, hml, hown, hT⟩ (q_fail l dC dI cy L kap pr S s.heap.size o 4 hTy hT_o g fa pl rn rb rt en mt (nI (tkc g en sp)) (SK g en sp) (tke g en sp) ⟨hS_o, af_i hS_rt, by omega, by omega, by omega⟩) (cwV 1 hT (gV w500 w502 ws5 w3 w503) rfl rfl rfl (by decide +kernel) ⟨(Nat.le_of_ble_eq_true rfl), (Nat.le_of_ble_eq_true rfl)⟩) ⟨pcN.blind, pl_recv hK hW hT_o.1 hS_o rfl, pcN.pre hW.1 hK hW.2.1 hN (fun q h => absurd h List.not_mem_nil)⟩ rfl rfl hl.1 rfl (lv_room (Nat.le_of_ble_eq_true rfl)) dX6_readParty_14 ⟨(Nat.le_of_ble_eq_true rfl), (Nat.le_of_ble_eq_true rfl)⟩) hW hA0 hA (fun S_25 H locs hrel hW => ?_)
    obtain ⟨hTy, hF1, hx1⟩ := hrel
    have hFr := hFr.tr hF1 (by decide)
    have hS_rt := hF1.at hT_rt (by decide) hS_rt
    have hS_rn := hF1.at hT_rn (by decide) hS_rn
    have hS_x_2 := hF1.at hT_x_2 (by decide) hS_x_2
    have hS_x_3 := hF1.at hT_x_3 (by decide) hS_x_3
    obtain ⟨fa26, pl26, hQ26, hfa26, hfb26⟩ := hx1
    obtain ⟨hS_o, hT_rn, hT_rb, hT_rt, hQg_, hen_, hta_, hte_⟩ := RQk hTy hT_o hQ26
    obtain ⟨f_27, hS_rt⟩ := hTy.k27 hT_rt
    have eg_ := hQg_.symm.trans (af_i hS_rt)
    subst eg_
    refine lv_aload_n hx hb dX6_readParty_17 rfl (lv_at hl 0 rfl) ?_
    refine pl_callv (va_runV (As := []) (rest := []) ⟨hx, hb, hml, hown, hT⟩ (q_next l dC dI cy L kap pr ad S_25 H.size o hTy hT_o g fa26 pl26 rn rb rt en mt (nI (tkc g en sp)) (SK g en sp) (tke g en sp) ⟨hS_o, af_i hS_rt, by omega, by omega, by omega⟩ (by omega)) (cwV 0 hT (gV w420 w422 ws0 w3 w423) rfl rfl rfl (by decide +kernel) ⟨(Nat.le_of_ble_eq_true rfl), (Nat.le_of_ble_eq_true rfl)⟩) ⟨pcS.blind, pl_recv hK hW hT_o.1 hS_o rfl, pcS.pre hW.1 hK hW.2.1 hN hSTR hW.2.2⟩ rfl rfl hl.1 rfl (lv_room (Nat.le_of_ble_eq_true rfl)) dX6_readParty_18 ⟨(Nat.le_of_ble_eq_true rfl), (Nat.le_of_ble_eq_true rfl)⟩) hW hA0 hA (fun S_28 H locs hrel hW => ?_)
    obtain ⟨hTy, hF1, hx1⟩ := hrel
    have hFr := hFr.tr hF1 (by decide)
    have hS_rn := hF1.at hT_rn (by decide) hS_rn
    have hS_x_2 := hF1.at hT_x_2 (by decide) hS_x_2
    have hS_x_3 := hF1.at hT_x_3 (by decide) hS_x_3
    have hS_rt := hF1.at hT_rt (by decide) hS_rt
    have htb_ := tke_b (g := g) (n := en) (p := tke g en sp) (by omega) (by omega)
    have hsg_ := SK_ge (g := g) (n := en) (i := tke g en sp)
    obtain ⟨hS_o, hT_rn, hT_rb, hT_rt, hQg_, hen_, hta_, hte_⟩ := RQk hTy hT_o hx1
    obtain ⟨f_29, hS_rt⟩ := hTy.k27 hT_rt
    have eg_ := hQg_.symm.trans (af_i hS_rt)
    subst eg_
    have htkb_ := tkc_le (g := g) (n := en) (p := tke g en sp)
    refine lv_aload_n hx hb dX6_readParty_21 rfl (lv_at hl 0 rfl) ?_
    refine pl_callv (va_runV (As := []) (rest := []) ⟨hx, hb, hml, hown, hT⟩ (q_checkNewName l dC dI cy L kap pr S_28 H.size o hTy hT_o g fa26 pl26 rn rb rt en mt (tke g en sp) ⟨hS_o, af_i hS_rt, by omega, by omega, by omega⟩ (by omega) df np nk ⟨inf_i hS_rn rfl, inf_i hS_rn rfl, by omega, by omega, by rw [fld_i hS_rn rfl hS_x_2, fld_i hS_rn rfl hS_x_3]; exact hN0, by rw [fld_i hS_rn rfl hS_x_2, fld_i hS_rn rfl hS_x_3]; exact hN8⟩) (cwV 0 hT (gV w504 w506 ws6 w3 w507) rfl rfl rfl (by decide +kernel) ⟨(Nat.le_of_ble_eq_true rfl), (Nat.le_of_ble_eq_true rfl)⟩) ⟨pcN.blind, pl_recv hK hW hT_o.1 hS_o rfl, pcN.pre hW.1 hK hW.2.1 hN (fun q h => absurd h List.not_mem_nil)⟩ rfl rfl hl.1 rfl (lv_room (Nat.le_of_ble_eq_true rfl)) dX6_readParty_22 ⟨(Nat.le_of_ble_eq_true rfl), (Nat.le_of_ble_eq_true rfl)⟩) hW hA0 hA (fun S_30 H locs hrel hW => ?_)
    obtain ⟨hTy, hF1, hx1⟩ := hrel
    have hFr := hFr.tr hF1 (by decide)
    have hS_rn := hF1.at hT_rn (by decide) hS_rn
    have hS_x_2 := hF1.at hT_x_2 (by decide) hS_x_2
    have hS_x_3 := hF1.at hT_x_3 (by decide) hS_x_3
    have hS_rt := hF1.at hT_rt (by decide) hS_rt
    obtain ⟨fa31, pl31, hQ31, hER31⟩ := hx1
    obtain ⟨hS_o, hT_rn, hT_rb, hT_rt, hQg_, hen_, hta_, hte_⟩ := RQk hTy hT_o hQ31
    obtain ⟨f_32, hS_rt⟩ := hTy.k27 hT_rt
    have eg_ := hQg_.symm.trans (af_i hS_rt)
    subst eg_
    refine lv_aload_n hx hb dX6_readParty_25 rfl (lv_at hl 0 rfl) ?_
    refine pl_get (ci := 6) (v := .int fa31) (C := RX6) (T := TX6) (N := 10) hx hb hT iX6 hown hK hW hT_o.1 hS_o rfl 0 (by decide) w139 rfl dX6_readParty_26 ?_
    have hnx : fa26 ≠ 0 := by by_cases q : fa = 0; rw [(hfb26 q).1]; decide; rw [(hfa26 q).1]; exact q
    have hne : fa31 ≠ 0 := by rw [(hER31.1 hnx).1]; exact hnx
    refine lv_if_ne (tgt := 56) hx hb dX6_readParty_29 (by decide) (fun _ => ?_) (fun h => absurd h hne)
    refine lv_aload_n hx hb dX6_readParty_56 rfl (lv_at hl 0 rfl) ?_
    refine pl_callv (va_runV (As := []) (rest := []) ⟨hx, hb, hml, hown, hT⟩ (q_next l dC dI cy L kap pr ad S_30 H.size o hTy hT_o g fa31 pl31 rn rb rt en mt (nI (tkc g en (tke g en sp))) (SK g en (tke g en sp)) (tke g en (tke g en sp)) ⟨hS_o, af_i hS_rt, by omega, by omega, by omega⟩ (by omega)) (cwV 0 hT (gV w420 w422 ws0 w3 w423) rfl rfl rfl (by decide +kernel) ⟨(Nat.le_of_ble_eq_true rfl), (Nat.le_of_ble_eq_true rfl)⟩) ⟨pcS.blind, pl_recv hK hW hT_o.1 hS_o rfl, pcS.pre hW.1 hK hW.2.1 hN hSTR hW.2.2⟩ rfl rfl hl.1 rfl (lv_room (Nat.le_of_ble_eq_true rfl)) dX6_readParty_57 ⟨(Nat.le_of_ble_eq_true rfl), (Nat.le_of_ble_eq_true rfl)⟩) hW hA0 hA (fun S_33 H locs hrel hW => ?_)
    obtain ⟨hTy, hF1, hx1⟩ := hrel
    have hFr := hFr.tr hF1 (by decide)
    have hS_rn := hF1.at hT_rn (by decide) hS_rn
    have hS_x_2 := hF1.at hT_x_2 (by decide) hS_x_2
    have hS_x_3 := hF1.at hT_x_3 (by decide) hS_x_3
    have hS_rt := hF1.at hT_rt (by decide) hS_rt
    have htb_ := tke_b (g := g) (n := en) (p := tke g en (tke g en sp)) (by omega) (by omega)
    have hsg_ := SK_ge (g := g) (n := en) (i := tke g en (tke g en sp))
    obtain ⟨hS_o, hT_rn, hT_rb, hT_rt, hQg_, hen_, hta_, hte_⟩ := RQk hTy hT_o hx1
    obtain ⟨f_34, hS_rt⟩ := hTy.k27 hT_rt
    have eg_ := hQg_.symm.trans (af_i hS_rt)
    subst eg_
    have htkb_ := tkc_le (g := g) (n := en) (p := tke g en (tke g en sp))
    exact W.vret hx hb hr (fun t ht h9 => ⟨⟨S_33, rfl, ⟨hTy, hFr, ⟨_, _, ⟨hS_o, af_i hS_rt, by omega, by omega, by omega⟩, by rw [show FU (decide (np = 8)) (SK g en sp) = (4, SK g en sp) from if_pos (decide_eq_true (by omega))]; exact ERR_2 (show 4 < 100 from by decide) (ERR_f hfa26 hfb26 (show (4 : Nat) ≠ 0 from by decide)) hER31, fun z => absurd z hne⟩⟩, by rw [ht]; exact hW.1, va_K.moved h9.alike hK, hW.2.1⟩, hW.2.2.F ht⟩) hW.2.2.2.2 dX6_readParty_60

set_option maxHeartbeats 4000000 in
set_option maxRecDepth 100000 in
theorem q_readKind (l : Launch) (dC : Nat → ClassId) (dI : Nat → Nat → Nat) (cy : Nat → ClassId) (L : List Nat) (kap : Nat → Nat) (pr : Pr) (ad : (Nat → Nat) × (Nat → Nat)) (S : Nat → va_E) (sz : Nat) (o : Nat) (hTy : Ty cy L kap pr S) (hT_o : TK L kap o 6) (g : Nat → Int32) (fa : Int32) (pl : Int32) (rn : Nat) (rb : Nat) (rt : Nat) (en : Nat) (mt : Int32) (sp : Nat) (hQ : RQ S o g fa pl rn rb rt en mt (nI (tkc g en sp)) (SK g en sp) (tke g en sp)) (hp : sp ≤ en) (df : Nat → Nat × Nat) (np : Nat) (nk : Nat) (hNq : NQ S g df rn np nk) (hg : BR g) : Met l yX6_readKind (wT yX6_readKind cX6_readKind 1 none) ({ frames := 7, cells := 0, slots := 0, locals := 147 }) (pcS dC dI [.ref o] sz L S (cyT cy) NLs ad) (va_Qv (fun S' => Ty cy L kap pr S' ∧ Fr kap [3, 6, 25, 26] S S' ∧ (∃ fa' pl', RQ S' o g fa' pl' rn rb rt en mt (nI (tkc g en (tke g en (tke g en sp)))) (SK g en (tke g en (tke g en sp))) (tke g en (tke g en (tke g en sp))) ∧ ERR fa pl (fe (FU (decide (nk = 4)) (SK g en sp)) (nnc g en df np nk (tke g en sp), SK g en (tke g en sp))).1 (fe (FU (decide (nk = 4)) (SK g en sp)) (nnc g en df np nk (tke g en sp), SK g en (tke g en sp))).2 fa' pl' ∧ (fa' = 0 → NQ S' g (ud df (8 + nk) (SK g en (tke g en sp), tke g en (tke g en sp) - SK g en (tke g en sp))) rn np (nk + 1)))) (fun S' t => pB dC dI (AL L sz) (va_pl L S') (cyT cy) t) (AL L sz)) 0 0 (AL L sz) := by
  refine Met.ofW (cc := cX6_readKind) (maxL := 1) (ret := none) (by decide) rfl ?_
  intro p e s m args below meth c s₁ B hml hv
  obtain ⟨rfl, hsz, hP, hK, hD0, hN, hSTR⟩ := hv
  have hx := B.exec
  have hb := B.bytes
  have hr := B.returns
  have hT : ∀ wd ∈ TB, wd.before [.ref o].toArray s = true := fun wd h => atoms_spec (ws := wT yX6_readKind cX6_readKind 1 none) B.pre wd (List.mem_cons_of_mem _ h)
  have hown : s.vm.findClass RX6 = some m.cls := findClass_of_methodNamed B.named
  have hlocks := B.notSynchronized
  subst hsz
  have hW : PW dC dI L (AL L s.heap.size) s.heap S s.heap [] := ⟨hP, pl_self hD0, va_S.rf⟩
  have hA0 : ∀ q, q ∈ L → AL L s.heap.size q := fun _ h => Or.inl h
  have hA : ∀ q, s.heap.size ≤ q → AL L s.heap.size q := fun _ h => Or.inr h
  have hFr : Fr kap [3, 6, 25, 26] S S := Fr.rf
  have hl := lv_entry ([.ref o]) (n := 1) (Nat.le_of_ble_eq_true rfl)
  rw [lg_entry_eq]
  generalize (lg_sl ([.ref o]) ++ List.replicate (1 - (lg_sl ([.ref o])).length) Slot.unset).toArray = ls at hl ⊢
  have hl : lv_has ls 1 [(0, .ref o)] := hl
  obtain ⟨hS_o, hT_rn, hT_rb, hT_rt, hQg_, hen_, hta_, hte_⟩ := RQk hTy hT_o hQ
  obtain ⟨f_1, hS_rt⟩ := hTy.k27 hT_rt
  have eg_ := hQg_.symm.trans (af_i hS_rt)
  subst eg_
  have htkb_ := tkc_le (g := g) (n := en) (p := sp)
  have htb_ := tke_b (g := g) (n := en) (p := sp) (by omega) (by omega)
  obtain ⟨x_2, x_3, x_4, x_5, hS_rn, hT_x_2, hT_x_3, hb_x_4, hb_x_5⟩ := hTy.k3 hT_rn
  obtain ⟨hn2_, hn3_, hnp_, hnk_, hN0, hN8⟩ := hNq
  obtain rfl : np = x_4 := (nI_eq (by omega) (by omega)).mp (hn2_.symm.trans (inf_i hS_rn rfl))
  obtain rfl : nk = x_5 := (nI_eq (by omega) (by omega)).mp (hn3_.symm.trans (inf_i hS_rn rfl))
  obtain ⟨f_6, hS_x_2⟩ := hTy.k25 hT_x_2
  obtain ⟨f_7, hS_x_3, hi_f_7⟩ := hTy.k26 hT_x_3
  rw [fld_i hS_rn rfl hS_x_2, fld_i hS_rn rfl hS_x_3] at hN0
  rw [fld_i hS_rn rfl hS_x_2, fld_i hS_rn rfl hS_x_3] at hN8
  have htb1_ := tke_b (g := g) (n := en) (p := tke g en sp) (by omega) (by omega)
  refine lv_aload_n hx hb dX6_readKind_0 rfl (lv_at hl 0 rfl) ?_
  refine pl_get (ci := 6) (v := .ref rn) (C := RX6) (T := TX6) (N := 10) hx hb hT iX6 hown hK hW hT_o.1 hS_o rfl 2 (by decide) w143 rfl dX6_readKind_1 ?_
  refine pl_get (ci := 3) (v := .int (nI nk)) (C := RX3) (T := TX3) (N := 4) hx hb hT iX3 hown hK hW hT_rn.1 hS_rn rfl 3 (by decide) w66 rfl dX6_readKind_4 ?_
  refine lv_iconst (v := 4) hx hb dX6_readKind_7 (by decide) ?_
  refine lv_icmp_lt (tgt := 16) hx hb dX6_readKind_8 (by decide) (fun c_8 => ?_) (fun c_8 => ?_)
  · have c_8 : nk < 4 := (nI_ltI (a := nk) (b := 4) (by omega) (by omega)).mp c_8
    refine lv_aload_n hx hb dX6_readKind_16 rfl (lv_at hl 0 rfl) ?_
    refine pl_callv (va_runV (As := []) (rest := []) ⟨hx, hb, hml, hown, hT⟩ (q_next l dC dI cy L kap pr ad S s.heap.size o hTy hT_o g fa pl rn rb rt en mt (nI (tkc g en sp)) (SK g en sp) (tke g en sp) ⟨hS_o, af_i hS_rt, by omega, by omega, by omega⟩ (by omega)) (cwV 0 hT (gV w420 w422 ws0 w3 w423) rfl rfl rfl (by decide +kernel) ⟨(Nat.le_of_ble_eq_true rfl), (Nat.le_of_ble_eq_true rfl)⟩) ⟨pcS.blind, pl_recv hK hW hT_o.1 hS_o rfl, pcS.pre hW.1 hK hW.2.1 hN hSTR hW.2.2⟩ rfl rfl hl.1 rfl (lv_room (Nat.le_of_ble_eq_true rfl)) dX6_readKind_17 ⟨(Nat.le_of_ble_eq_true rfl), (Nat.le_of_ble_eq_true rfl)⟩) hW hA0 hA (fun S_8 H locs hrel hW => ?_)
    obtain ⟨hTy, hF1, hx1⟩ := hrel
    have hFr := hFr.tr hF1 (by decide)
    have hS_rt := hF1.at hT_rt (by decide) hS_rt
    have hS_rn := hF1.at hT_rn (by decide) hS_rn
    have hS_x_2 := hF1.at hT_x_2 (by decide) hS_x_2
    have hS_x_3 := hF1.at hT_x_3 (by decide) hS_x_3
    have htb_ := tke_b (g := g) (n := en) (p := tke g en sp) (by omega) (by omega)
    have hsg_ := SK_ge (g := g) (n := en) (i := tke g en sp)
    obtain ⟨hS_o, hT_rn, hT_rb, hT_rt, hQg_, hen_, hta_, hte_⟩ := RQk hTy hT_o hx1
    obtain ⟨f_9, hS_rt⟩ := hTy.k27 hT_rt
    have eg_ := hQg_.symm.trans (af_i hS_rt)
    subst eg_
    have htkb_ := tkc_le (g := g) (n := en) (p := tke g en sp)
    refine lv_aload_n hx hb dX6_readKind_20 rfl (lv_at hl 0 rfl) ?_
    refine pl_callv (va_runV (As := []) (rest := []) ⟨hx, hb, hml, hown, hT⟩ (q_checkNewName l dC dI cy L kap pr S_8 H.size o hTy hT_o g fa pl rn rb rt en mt (tke g en sp) ⟨hS_o, af_i hS_rt, by omega, by omega, by omega⟩ (by omega) df np nk ⟨inf_i hS_rn rfl, inf_i hS_rn rfl, by omega, by omega, by rw [fld_i hS_rn rfl hS_x_2, fld_i hS_rn rfl hS_x_3]; exact hN0, by rw [fld_i hS_rn rfl hS_x_2, fld_i hS_rn rfl hS_x_3]; exact hN8⟩) (cwV 0 hT (gV w504 w506 ws6 w3 w507) rfl rfl rfl (by decide +kernel) ⟨(Nat.le_of_ble_eq_true rfl), (Nat.le_of_ble_eq_true rfl)⟩) ⟨pcN.blind, pl_recv hK hW hT_o.1 hS_o rfl, pcN.pre hW.1 hK hW.2.1 hN (fun q h => absurd h List.not_mem_nil)⟩ rfl rfl hl.1 rfl (lv_room (Nat.le_of_ble_eq_true rfl)) dX6_readKind_21 ⟨(Nat.le_of_ble_eq_true rfl), (Nat.le_of_ble_eq_true rfl)⟩) hW hA0 hA (fun S_10 H locs hrel hW => ?_)
    obtain ⟨hTy, hF1, hx1⟩ := hrel
    have hFr := hFr.tr hF1 (by decide)
    have hS_rn := hF1.at hT_rn (by decide) hS_rn
    have hS_x_2 := hF1.at hT_x_2 (by decide) hS_x_2
    have hS_x_3 := hF1.at hT_x_3 (by decide) hS_x_3
    have hS_rt := hF1.at hT_rt (by decide) hS_rt
    obtain ⟨fa11, pl11, hQ11, hER11⟩ := hx1
    obtain ⟨hS_o, hT_rn, hT_rb, hT_rt, hQg_, hen_, hta_, hte_⟩ := RQk hTy hT_o hQ11
    obtain ⟨f_12, hS_rt⟩ := hTy.k27 hT_rt
    have eg_ := hQg_.symm.trans (af_i hS_rt)
    subst eg_
    refine lv_aload_n hx hb dX6_readKind_24 rfl (lv_at hl 0 rfl) ?_
    refine pl_get (ci := 6) (v := .int fa11) (C := RX6) (T := TX6) (N := 10) hx hb hT iX6 hown hK hW hT_o.1 hS_o rfl 0 (by decide) w139 rfl dX6_readKind_25 ?_
    refine lv_if_ne (tgt := 55) hx hb dX6_readKind_28 (by decide) (fun c_28 => ?_) (fun c_28 => ?_)
    · refine lv_aload_n hx hb dX6_readKind_55 rfl (lv_at hl 0 rfl) ?_
      refine pl_callv (va_runV (As := []) (rest := []) ⟨hx, hb, hml, hown, hT⟩ (q_next l dC dI cy L kap pr ad S_10 H.size o hTy hT_o g fa11 pl11 rn rb rt en mt (nI (tkc g en (tke g en sp))) (SK g en (tke g en sp)) (tke g en (tke g en sp)) ⟨hS_o, af_i hS_rt, by omega, by omega, by omega⟩ (by omega)) (cwV 0 hT (gV w420 w422 ws0 w3 w423) rfl rfl rfl (by decide +kernel) ⟨(Nat.le_of_ble_eq_true rfl), (Nat.le_of_ble_eq_true rfl)⟩) ⟨pcS.blind, pl_recv hK hW hT_o.1 hS_o rfl, pcS.pre hW.1 hK hW.2.1 hN hSTR hW.2.2⟩ rfl rfl hl.1 rfl (lv_room (Nat.le_of_ble_eq_true rfl)) dX6_readKind_56 ⟨(Nat.le_of_ble_eq_true rfl), (Nat.le_of_ble_eq_true rfl)⟩) hW hA0 hA (fun S_13 H locs hrel hW => ?_)
      obtain ⟨hTy, hF1, hx1⟩ := hrel
      have hFr := hFr.tr hF1 (by decide)
      have hS_rn := hF1.at hT_rn (by decide) hS_rn
      have hS_x_2 := hF1.at hT_x_2 (by decide) hS_x_2
      have hS_x_3 := hF1.at hT_x_3 (by decide) hS_x_3
      have hS_rt := hF1.at hT_rt (by decide) hS_rt
      have htb_ := tke_b (g := g) (n := en) (p := tke g en (tke g en sp)) (by omega) (by omega)
      have hsg_ := SK_ge (g := g) (n := en) (i := tke g en (tke g en sp))
      obtain ⟨hS_o, hT_rn, hT_rb, hT_rt, hQg_, hen_, hta_, hte_⟩ := RQk hTy hT_o hx1
      obtain ⟨f_14, hS_rt⟩ := hTy.k27 hT_rt
      have eg_ := hQg_.symm.trans (af_i hS_rt)
      subst eg_
      have htkb_ := tkc_le (g := g) (n := en) (p := tke g en (tke g en sp))
      exact W.vret hx hb hr (fun t ht h9 => ⟨⟨S_13, rfl, ⟨hTy, hFr, ⟨_, _, ⟨hS_o, af_i hS_rt, by omega, by omega, by omega⟩, by rw [show FU (decide (nk = 4)) (SK g en sp) = (0, 0) from if_neg (fun z => by have z := of_decide_eq_true z; omega)]; exact ERR_2 (show 0 < 100 from by decide) ERR_0 hER11, fun z => absurd z c_28⟩⟩, by rw [ht]; exact hW.1, va_K.moved h9.alike hK, hW.2.1⟩, hW.2.2.F ht⟩) hW.2.2.2.2 dX6_readKind_59
    · have hzn := nz_nnc hER11 nnc_b (z_ERR hER11 c_28) c_28
      have hnok := NOK_t (nnc_4 hzn) (by omega)
      refine lv_aload_n hx hb dX6_readKind_31 rfl (lv_at hl 0 rfl) ?_
      refine pl_get (ci := 6) (v := .ref rn) (C := RX6) (T := TX6) (N := 10) hx hb hT iX6 hown hK hW hT_o.1 hS_o rfl 2 (by decide) w143 rfl dX6_readKind_32 ?_
      refine lv_aload_n hx hb dX6_readKind_35 rfl (lv_at hl 0 rfl) ?_
      refine pl_get (ci := 6) (v := .ref rt) (C := RX6) (T := TX6) (N := 10) hx hb hT iX6 hown hK hW hT_o.1 hS_o rfl 4 (by decide) w147 rfl dX6_readKind_36 ?_
      refine lv_aload_n hx hb dX6_readKind_39 rfl (lv_at hl 0 rfl) ?_
      refine pl_get (ci := 6) (v := .int (nI (SK g en (tke g en sp)))) (C := RX6) (T := TX6) (N := 10) hx hb hT iX6 hown hK hW hT_o.1 hS_o rfl 8 (by decide) w151 rfl dX6_readKind_40 ?_
      refine lv_aload_n hx hb dX6_readKind_43 rfl (lv_at hl 0 rfl) ?_
      refine pl_get (ci := 6) (v := .int (nI (tke g en (tke g en sp)))) (C := RX6) (T := TX6) (N := 10) hx hb hT iX6 hown hK hW hT_o.1 hS_o rfl 9 (by decide) w152 rfl dX6_readKind_44 ?_
      refine lv_aload_n hx hb dX6_readKind_47 rfl (lv_at hl 0 rfl) ?_
      refine pl_get (ci := 6) (v := .int (nI (SK g en (tke g en sp)))) (C := RX6) (T := TX6) (N := 10) hx hb hT iX6 hown hK hW hT_o.1 hS_o rfl 8 (by decide) w151 rfl dX6_readKind_48 ?_
      refine lv_isub hx hb dX6_readKind_51 ?_
      refine lv_topi (fun z_15 ez_15 => ?_)
      obtain rfl : z_15 = nI ((tke g en (tke g en sp)) - (SK g en (tke g en sp))) := ez_15.trans (pk_sub (a := tke g en (tke g en sp)) (b := SK g en (tke g en sp)) (by omega))
      refine pl_callv (va_runV (As := [.ref rt, .int (nI (SK g en (tke g en sp))), .int (nI ((tke g en (tke g en sp)) - (SK g en (tke g en sp))))]) (rest := []) ⟨hx, hb, hml, hown, hT⟩ (q_appendKind l dC dI cy L kap pr S_10 H.size rn rt (SK g en (tke g en sp)) ((tke g en (tke g en sp)) - (SK g en (tke g en sp))) hTy hT_rn hT_rt (by omega) (by omega) g df np nk (af_i hS_rt) hg ⟨inf_i hS_rn rfl, inf_i hS_rn rfl, by omega, by omega, by rw [fld_i hS_rn rfl hS_x_2, fld_i hS_rn rfl hS_x_3]; exact hN0, by rw [fld_i hS_rn rfl hS_x_2, fld_i hS_rn rfl hS_x_3]; exact hN8⟩ (by omega) hnok) (cwV 3 hT (gV w537 w538 w539 w4 w540) rfl rfl rfl (by decide +kernel) ⟨(Nat.le_of_ble_eq_true rfl), (Nat.le_of_ble_eq_true rfl)⟩) ⟨pcN.blind, pl_recv hK hW hT_rn.1 hS_rn rfl, pcN.pre hW.1 hK hW.2.1 hN (fun q h => absurd h List.not_mem_nil)⟩ rfl rfl hl.1 rfl (lv_room (Nat.le_of_ble_eq_true rfl)) dX6_readKind_52 ⟨(Nat.le_of_ble_eq_true rfl), (Nat.le_of_ble_eq_true rfl)⟩) hW hA0 hA (fun S_16 H locs hrel hW => ?_)
      obtain ⟨hTy, hF1, hx1⟩ := hrel
      have hFr := hFr.tr hF1 (by decide)
      have hS_o := hF1.at hT_o (by decide) hS_o
      have hS_rt := hF1.at hT_rt (by decide) hS_rt
      obtain ⟨x_17, x_18, x_19, x_20, hS_rn, hT_x_17, hT_x_18, hb_x_19, hb_x_20⟩ := hTy.k3 hT_rn
      obtain ⟨hn2_, hn3_, hnp_, hnk_, hN0, hN8⟩ := hx1
      obtain rfl : np = x_19 := (nI_eq (by omega) (by omega)).mp (hn2_.symm.trans (inf_i hS_rn rfl))
      obtain rfl : x_20 = nk + 1 := ((nI_eq (by omega) (by omega)).mp (hn3_.symm.trans (inf_i hS_rn rfl))).symm
      obtain ⟨f_21, hS_x_17⟩ := hTy.k25 hT_x_17
      obtain ⟨f_22, hS_x_18, hi_f_22⟩ := hTy.k26 hT_x_18
      rw [fld_i hS_rn rfl hS_x_17, fld_i hS_rn rfl hS_x_18] at hN0
      rw [fld_i hS_rn rfl hS_x_17, fld_i hS_rn rfl hS_x_18] at hN8
      refine lv_aload_n hx hb dX6_readKind_55 rfl (lv_at hl 0 rfl) ?_
      refine pl_callv (va_runV (As := []) (rest := []) ⟨hx, hb, hml, hown, hT⟩ (q_next l dC dI cy L kap pr ad S_16 H.size o hTy hT_o g fa11 pl11 rn rb rt en mt (nI (tkc g en (tke g en sp))) (SK g en (tke g en sp)) (tke g en (tke g en sp)) ⟨hS_o, af_i hS_rt, by omega, by omega, by omega⟩ (by omega)) (cwV 0 hT (gV w420 w422 ws0 w3 w423) rfl rfl rfl (by decide +kernel) ⟨(Nat.le_of_ble_eq_true rfl), (Nat.le_of_ble_eq_true rfl)⟩) ⟨pcS.blind, pl_recv hK hW hT_o.1 hS_o rfl, pcS.pre hW.1 hK hW.2.1 hN hSTR hW.2.2⟩ rfl rfl hl.1 rfl (lv_room (Nat.le_of_ble_eq_true rfl)) dX6_readKind_56 ⟨(Nat.le_of_ble_eq_true rfl), (Nat.le_of_ble_eq_true rfl)⟩) hW hA0 hA (fun S_23 H locs hrel hW => ?_)
      obtain ⟨hTy, hF1, hx1⟩ := hrel
      have hFr := hFr.tr hF1 (by decide)
      have hS_rt := hF1.at hT_rt (by decide) hS_rt
      have hS_rn := hF1.at hT_rn (by decide) hS_rn
      have hS_x_17 := hF1.at hT_x_17 (by decide) hS_x_17
      have hS_x_18 := hF1.at hT_x_18 (by decide) hS_x_18
      have htb_ := tke_b (g := g) (n := en) (p := tke g en (tke g en sp)) (by omega) (by omega)
      have hsg_ := SK_ge (g := g) (n := en) (i := tke g en (tke g en sp))
      obtain ⟨hS_o, hT_rn, hT_rb, hT_rt, hQg_, hen_, hta_, hte_⟩ := RQk hTy hT_o hx1
      obtain ⟨f_24, hS_rt⟩ := hTy.k27 hT_rt
      have eg_ := hQg_.symm.trans (af_i hS_rt)
      subst eg_
      have htkb_ := tkc_le (g := g) (n := en) (p := tke g en (tke g en sp))
      exact W.vret hx hb hr (fun t ht h9 => ⟨⟨S_23, rfl, ⟨hTy, hFr, ⟨_, _, ⟨hS_o, af_i hS_rt, by omega, by omega, by omega⟩, by rw [show FU (decide (nk = 4)) (SK g en sp) = (0, 0) from if_neg (fun z => by have z := of_decide_eq_true z; omega)]; exact ERR_2 (show 0 < 100 from by decide) ERR_0 hER11, fun _ => ⟨inf_i hS_rn rfl, inf_i hS_rn rfl, by omega, by omega, by rw [fld_i hS_rn rfl hS_x_17, fld_i hS_rn rfl hS_x_18]; exact hN0, by rw [fld_i hS_rn rfl hS_x_17, fld_i hS_rn rfl hS_x_18]; exact hN8⟩⟩⟩, by rw [ht]; exact hW.1, va_K.moved h9.alike hK, hW.2.1⟩, hW.2.2.F ht⟩) hW.2.2.2.2 dX6_readKind_59
  · have c_8 : ¬ (nk < 4) := fun hh9 => c_8 ((nI_ltI (a := nk) (b := 4) (by omega) (by omega)).mpr hh9)
    refine lv_aload_n hx hb dX6_readKind_11 rfl (lv_at hl 0 rfl) ?_
    refine lv_iconst (v := 4) hx hb dX6_readKind_12 (by decide) ?_
    refine pl_callv (va_runV (As := [.int 4]) (rest := []) ⟨hx, hb, hml, hown, hT⟩ (q_fail l dC dI cy L kap pr S s.heap.size o 4 hTy hT_o g fa pl rn rb rt en mt (nI (tkc g en sp)) (SK g en sp) (tke g en sp) ⟨hS_o, af_i hS_rt, by omega, by omega, by omega⟩) (cwV 1 hT (gV w500 w502 ws5 w3 w503) rfl rfl rfl (by decide +kernel) ⟨(Nat.le_of_ble_eq_true rfl), (Nat.le_of_ble_eq_true rfl)⟩) ⟨pcN.blind, pl_recv hK hW hT_o.1 hS_o rfl, pcN.pre hW.1 hK hW.2.1 hN (fun q h => absurd h List.not_mem_nil)⟩ rfl rfl hl.1 rfl (lv_room (Nat.le_of_ble_eq_true rfl)) dX6_readKind_13 ⟨(Nat.le_of_ble_eq_true rfl), (Nat.le_of_ble_eq_true rfl)⟩) hW hA0 hA (fun S_25 H locs hrel hW => ?_)
    obtain ⟨hTy, hF1, hx1⟩ := hrel
    have hFr := hFr.tr hF1 (by decide)
    have hS_rt := hF1.at hT_rt (by decide) hS_rt
    have hS_rn := hF1.at hT_rn (by decide) hS_rn
    have hS_x_2 := hF1.at hT_x_2 (by decide) hS_x_2
    have hS_x_3 := hF1.at hT_x_3 (by decide) hS_x_3
    obtain ⟨fa26, pl26, hQ26, hfa26, hfb26⟩ := hx1
    obtain ⟨hS_o, hT_rn, hT_rb, hT_rt, hQg_, hen_, hta_, hte_⟩ := RQk hTy hT_o hQ26
    obtain ⟨f_27, hS_rt⟩ := hTy.k27 hT_rt
    have eg_ := hQg_.symm.trans (af_i hS_rt)
    subst eg_
    refine lv_aload_n hx hb dX6_readKind_16 rfl (lv_at hl 0 rfl) ?_
    refine pl_callv (va_runV (As := []) (rest := []) ⟨hx, hb, hml, hown, hT⟩ (q_next l dC dI cy L kap pr ad S_25 H.size o hTy hT_o g fa26 pl26 rn rb rt en mt (nI (tkc g en sp)) (SK g en sp) (tke g en sp) ⟨hS_o, af_i hS_rt, by omega, by omega, by omega⟩ (by omega)) (cwV 0 hT (gV w420 w422 ws0 w3 w423) rfl rfl rfl (by decide +kernel) ⟨(Nat.le_of_ble_eq_true rfl), (Nat.le_of_ble_eq_true rfl)⟩) ⟨pcS.blind, pl_recv hK hW hT_o.1 hS_o rfl, pcS.pre hW.1 hK hW.2.1 hN hSTR hW.2.2⟩ rfl rfl hl.1 rfl (lv_room (Nat.le_of_ble_eq_true rfl)) dX6_readKind_17 ⟨(Nat.le_of_ble_eq_true rfl), (Nat.le_of_ble_eq_true rfl)⟩) hW hA0 hA (fun S_28 H locs hrel hW => ?_)
    obtain ⟨hTy, hF1, hx1⟩ := hrel
    have hFr := hFr.tr hF1 (by decide)
    have hS_rn := hF1.at hT_rn (by decide) hS_rn
    have hS_x_2 := hF1.at hT_x_2 (by decide) hS_x_2
    have hS_x_3 := hF1.at hT_x_3 (by decide) hS_x_3
    have hS_rt := hF1.at hT_rt (by decide) hS_rt
    have htb_ := tke_b (g := g) (n := en) (p := tke g en sp) (by omega) (by omega)
    have hsg_ := SK_ge (g := g) (n := en) (i := tke g en sp)
    obtain ⟨hS_o, hT_rn, hT_rb, hT_rt, hQg_, hen_, hta_, hte_⟩ := RQk hTy hT_o hx1
    obtain ⟨f_29, hS_rt⟩ := hTy.k27 hT_rt
    have eg_ := hQg_.symm.trans (af_i hS_rt)
    subst eg_
    have htkb_ := tkc_le (g := g) (n := en) (p := tke g en sp)
    refine lv_aload_n hx hb dX6_readKind_20 rfl (lv_at hl 0 rfl) ?_
    refine pl_callv (va_runV (As := []) (rest := []) ⟨hx, hb, hml, hown, hT⟩ (q_checkNewName l dC dI cy L kap pr S_28 H.size o hTy hT_o g fa26 pl26 rn rb rt en mt (tke g en sp) ⟨hS_o, af_i hS_rt, by omega, by omega, by omega⟩ (by omega) df np nk ⟨inf_i hS_rn rfl, inf_i hS_rn rfl, by omega, by omega, by rw [fld_i hS_rn rfl hS_x_2, fld_i hS_rn rfl hS_x_3]; exact hN0, by rw [fld_i hS_rn rfl hS_x_2, fld_i hS_rn rfl hS_x_3]; exact hN8⟩) (cwV 0 hT (gV w504 w506 ws6 w3 w507) rfl rfl rfl (by decide +kernel) ⟨(Nat.le_of_ble_eq_true rfl), (Nat.le_of_ble_eq_true rfl)⟩) ⟨pcN.blind, pl_recv hK hW hT_o.1 hS_o rfl, pcN.pre hW.1 hK hW.2.1 hN (fun q h => absurd h List.not_mem_nil)⟩ rfl rfl hl.1 rfl (lv_room (Nat.le_of_ble_eq_true rfl)) dX6_readKind_21 ⟨(Nat.le_of_ble_eq_true rfl), (Nat.le_of_ble_eq_true rfl)⟩) hW hA0 hA (fun S_30 H locs hrel hW => ?_)
    obtain ⟨hTy, hF1, hx1⟩ := hrel
    have hFr := hFr.tr hF1 (by decide)
    have hS_rn := hF1.at hT_rn (by decide) hS_rn
    have hS_x_2 := hF1.at hT_x_2 (by decide) hS_x_2
    have hS_x_3 := hF1.at hT_x_3 (by decide) hS_x_3
    have hS_rt := hF1.at hT_rt (by decide) hS_rt
    obtain ⟨fa31, pl31, hQ31, hER31⟩ := hx1
    obtain ⟨hS_o, hT_rn, hT_rb, hT_rt, hQg_, hen_, hta_, hte_⟩ := RQk hTy hT_o hQ31
    obtain ⟨f_32, hS_rt⟩ := hTy.k27 hT_rt
    have eg_ := hQg_.symm.trans (af_i hS_rt)
    subst eg_
    refine lv_aload_n hx hb dX6_readKind_24 rfl (lv_at hl 0 rfl) ?_
    refine pl_get (ci := 6) (v := .int fa31) (C := RX6) (T := TX6) (N := 10) hx hb hT iX6 hown hK hW hT_o.1 hS_o rfl 0 (by decide) w139 rfl dX6_readKind_25 ?_
    have hnx : fa26 ≠ 0 := by by_cases q : fa = 0; rw [(hfb26 q).1]; decide; rw [(hfa26 q).1]; exact q
    have hne : fa31 ≠ 0 := by rw [(hER31.1 hnx).1]; exact hnx
    refine lv_if_ne (tgt := 55) hx hb dX6_readKind_28 (by decide) (fun _ => ?_) (fun h => absurd h hne)
    refine lv_aload_n hx hb dX6_readKind_55 rfl (lv_at hl 0 rfl) ?_
    refine pl_callv (va_runV (As := []) (rest := []) ⟨hx, hb, hml, hown, hT⟩ (q_next l dC dI cy L kap pr ad S_30 H.size o hTy hT_o g fa31 pl31 rn rb rt en mt (nI (tkc g en (tke g en sp))) (SK g en (tke g en sp)) (tke g en (tke g en sp)) ⟨hS_o, af_i hS_rt, by omega, by omega, by omega⟩ (by omega)) (cwV 0 hT (gV w420 w422 ws0 w3 w423) rfl rfl rfl (by decide +kernel) ⟨(Nat.le_of_ble_eq_true rfl), (Nat.le_of_ble_eq_true rfl)⟩) ⟨pcS.blind, pl_recv hK hW hT_o.1 hS_o rfl, pcS.pre hW.1 hK hW.2.1 hN hSTR hW.2.2⟩ rfl rfl hl.1 rfl (lv_room (Nat.le_of_ble_eq_true rfl)) dX6_readKind_56 ⟨(Nat.le_of_ble_eq_true rfl), (Nat.le_of_ble_eq_true rfl)⟩) hW hA0 hA (fun S_33 H locs hrel hW => ?_)
    obtain ⟨hTy, hF1, hx1⟩ := hrel
    have hFr := hFr.tr hF1 (by decide)
    have hS_rn := hF1.at hT_rn (by decide) hS_rn
    have hS_x_2 := hF1.at hT_x_2 (by decide) hS_x_2
    have hS_x_3 := hF1.at hT_x_3 (by decide) hS_x_3
    have hS_rt := hF1.at hT_rt (by decide) hS_rt
    have htb_ := tke_b (g := g) (n := en) (p := tke g en (tke g en sp)) (by omega) (by omega)
    have hsg_ := SK_ge (g := g) (n := en) (i := tke g en (tke g en sp))
    obtain ⟨hS_o, hT_rn, hT_rb, hT_rt, hQg_, hen_, hta_, hte_⟩ := RQk hTy hT_o hx1
    obtain ⟨f_34, hS_rt⟩ := hTy.k27 hT_rt
    have eg_ := hQg_.symm.trans (af_i hS_rt)
    subst eg_
    have htkb_ := tkc_le (g := g) (n := en) (p := tke g en (tke g en sp))
    exact W.vret hx hb hr (fun t ht h9 => ⟨⟨S_33, rfl, ⟨hTy, hFr, ⟨_, _, ⟨hS_o, af_i hS_rt, by omega, by omega, by omega⟩, by rw [show FU (decide (nk = 4)) (SK g en sp) = (4, SK g en sp) from if_pos (decide_eq_true (by omega))]; exact ERR_2 (show 4 < 100 from by decide) (ERR_f hfa26 hfb26 (show (4 : Nat) ≠ 0 from by decide)) hER31, fun z => absurd z hne⟩⟩, by rw [ht]; exact hW.1, va_K.moved h9.alike hK, hW.2.1⟩, hW.2.2.F ht⟩) hW.2.2.2.2 dX6_readKind_59

