set_option maxHeartbeats 4000000 in
set_option maxRecDepth 100000 in
theorem q_readMode (l : Launch) (dC : Nat → ClassId) (dI : Nat → Nat → Nat) (cy : Nat → ClassId) (L : List Nat) (kap : Nat → Nat) (pr : Pr) (ad : (Nat → Nat) × (Nat → Nat)) (S : Nat → va_E) (sz : Nat) (o : Nat) (hTy : Ty cy L kap pr S) (hT_o : TK L kap o 6) (g : Nat → Int32) (fa : Int32) (pl : Int32) (rn : Nat) (rb : Nat) (rt : Nat) (en : Nat) (mt : Int32) (sp : Nat) (hQ : RQ S o g fa pl rn rb rt en mt (nI (tkc g en sp)) (SK g en sp) (tke g en sp)) (hp : sp ≤ en) (mn : Nat) (kf : Nat → Bool) (hBq : BQ S rb mn kf) : Met l yX6_readMode (wT yX6_readMode cX6_readMode 2 none) ({ frames := 7, cells := 0, slots := 0, locals := 147 }) (pcS dC dI [.ref o] sz L S (cyT cy) NLs ad) (va_Qv (fun S' => Ty cy L kap pr S' ∧ Fr kap [0, 6] S S' ∧ (∃ fa' pl', RQ S' o g fa' pl' rn rb rt en 1 (nI (tkc g en (tke g en (tke g en sp)))) (SK g en (tke g en (tke g en sp))) (tke g en (tke g en (tke g en sp))) ∧ ERR fa pl (fe (if mt = 0 then ((0 : Nat), 0) else (1, SK g en sp)) (nbc g en (tke g en sp) 0 3, SK g en (tke g en sp))).1 (fe (if mt = 0 then ((0 : Nat), 0) else (1, SK g en sp)) (nbc g en (tke g en sp) 0 3, SK g en (tke g en sp))).2 fa' pl' ∧ BQ S' rb mn kf)) (fun S' t => pB dC dI (AL L sz) (va_pl L S') (cyT cy) t) (AL L sz)) 0 0 (AL L sz) := by
  refine Met.ofW (cc := cX6_readMode) (maxL := 2) (ret := none) (by decide) rfl ?_
  intro p e s m args below meth c s₁ B hml hv
  obtain ⟨rfl, hsz, hP, hK, hD0, hN, hSTR⟩ := hv
  have hx := B.exec
  have hb := B.bytes
  have hr := B.returns
  have hT : ∀ wd ∈ TB, wd.before [.ref o].toArray s = true := fun wd h => atoms_spec (ws := wT yX6_readMode cX6_readMode 2 none) B.pre wd (List.mem_cons_of_mem _ h)
  have hown : s.vm.findClass RX6 = some m.cls := findClass_of_methodNamed B.named
  have hlocks := B.notSynchronized
  subst hsz
  have hW : PW dC dI L (AL L s.heap.size) s.heap S s.heap [] := ⟨hP, pl_self hD0, va_S.rf⟩
  have hA0 : ∀ q, q ∈ L → AL L s.heap.size q := fun _ h => Or.inl h
  have hA : ∀ q, s.heap.size ≤ q → AL L s.heap.size q := fun _ h => Or.inr h
  have hFr : Fr kap [0, 6] S S := Fr.rf
  have hl := lv_entry ([.ref o]) (n := 2) (Nat.le_of_ble_eq_true rfl)
  rw [lg_entry_eq]
  generalize (lg_sl ([.ref o]) ++ List.replicate (2 - (lg_sl ([.ref o])).length) Slot.unset).toArray = ls at hl ⊢
  have hl : lv_has ls 2 [(0, .ref o)] := hl
  obtain ⟨hS_o, hT_rn, hT_rb, hT_rt, hQg_, hen_, hta_, hte_⟩ := RQk hTy hT_o hQ
  obtain ⟨f_1, hS_rt⟩ := hTy.k27 hT_rt
  have eg_ := hQg_.symm.trans (af_i hS_rt)
  subst eg_
  have htkb_ := tkc_le (g := g) (n := en) (p := sp)
  have htb_ := tke_b (g := g) (n := en) (p := sp) (by omega) (by omega)
  obtain ⟨x_2, x_3, x_4, x_5, x_6, x_7, x_8, x_9, hS_rb, hT_x_2, hT_x_3, hT_x_4, hT_x_5, hT_x_6, hT_x_7, hb_x_8⟩ := hTy.k0 hT_rb
  obtain ⟨f_10, hS_x_6⟩ := hTy.k23 hT_x_6
  obtain ⟨hb6_, hb40_, hbk_⟩ := hBq
  obtain rfl : mn = x_8 := (nI_eq (by omega) (by omega)).mp (hb6_.symm.trans (inf_i hS_rb rfl))
  rw [fld_i hS_rb rfl hS_x_6] at hbk_
  have htb1_ := tke_b (g := g) (n := en) (p := tke g en sp) (by omega) (by omega)
  refine lv_aload_n hx hb dX6_readMode_0 rfl (lv_at hl 0 rfl) ?_
  refine pl_get (ci := 6) (v := .int mt) (C := RX6) (T := TX6) (N := 10) hx hb hT iX6 hown hK hW hT_o.1 hS_o rfl 6 (by decide) w149 rfl dX6_readMode_1 ?_
  refine lv_if_eq (tgt := 12) hx hb dX6_readMode_4 (by decide) (fun c_4 => ?_) (fun c_4 => ?_)
  · refine lv_aload_n hx hb dX6_readMode_12 rfl (lv_at hl 0 rfl) ?_
    refine lv_iconst (v := 1) hx hb dX6_readMode_13 (by decide) ?_
    refine pl_put (ci := 6) (v := .int 1) (ty := .boolean) (C := RX6) (T := TX6) (N := 10) (fs' := [.int fa, .int pl, .ref rn, .ref rb, .ref rt, .int (nI en), .int 1, .int (nI (tkc g en sp)), .int (nI (SK g en sp)), .int (nI (tke g en sp))]) hx hb hT iX6 tyX6 tyX6_ok nmX6 hown hK hW hT_o.1 hS_o rfl 6 (by decide) w149 rfl (by decide +kernel) rfl rfl (Nat.le_of_ble_eq_true rfl) rfl dX6_readMode_14 (fun H locs S_11 e1 hW => ?_)
    have hTy := hTy.u6 e1 hT_o ⟨fa, pl, rn, rb, rt, en, 1, nI (tkc g en sp), SK g en sp, tke g en sp, rfl, hT_rn, hT_rb, hT_rt, (by omega), (by omega), (by omega)⟩
    have hS_rt := un e1 hT_rt hT_o (by decide) hS_rt
    have hS_rb := un e1 hT_rb hT_o (by decide) hS_rb
    have hS_x_6 := un e1 hT_x_6 hT_o (by decide) hS_x_6
    have hFr := uf hFr e1 hT_o (by decide) (by decide)
    have hS_o := us e1
    refine lv_aload_n hx hb dX6_readMode_17 rfl (lv_at hl 0 rfl) ?_
    refine pl_callv (va_runV (As := []) (rest := []) ⟨hx, hb, hml, hown, hT⟩ (q_next l dC dI cy L kap pr ad S_11 H.size o hTy hT_o g fa pl rn rb rt en 1 (nI (tkc g en sp)) (SK g en sp) (tke g en sp) ⟨hS_o, af_i hS_rt, by omega, by omega, by omega⟩ (by omega)) (cwV 0 hT (gV w420 w422 ws0 w3 w423) rfl rfl rfl (by decide +kernel) ⟨(Nat.le_of_ble_eq_true rfl), (Nat.le_of_ble_eq_true rfl)⟩) ⟨pcS.blind, pl_recv hK hW hT_o.1 hS_o rfl, pcS.pre hW.1 hK hW.2.1 hN hSTR hW.2.2⟩ rfl rfl hl.1 rfl (lv_room (Nat.le_of_ble_eq_true rfl)) dX6_readMode_18 ⟨(Nat.le_of_ble_eq_true rfl), (Nat.le_of_ble_eq_true rfl)⟩) hW hA0 hA (fun S_12 H locs hrel hW => ?_)
    obtain ⟨hTy, hF1, hx1⟩ := hrel
    have hFr := hFr.tr hF1 (by decide)
    have hS_rt := hF1.at hT_rt (by decide) hS_rt
    have hS_rb := hF1.at hT_rb (by decide) hS_rb
    have hS_x_6 := hF1.at hT_x_6 (by decide) hS_x_6
    have htb_ := tke_b (g := g) (n := en) (p := tke g en sp) (by omega) (by omega)
    have hsg_ := SK_ge (g := g) (n := en) (i := tke g en sp)
    obtain ⟨hS_o, hT_rn, hT_rb, hT_rt, hQg_, hen_, hta_, hte_⟩ := RQk hTy hT_o hx1
    obtain ⟨f_13, hS_rt⟩ := hTy.k27 hT_rt
    have eg_ := hQg_.symm.trans (af_i hS_rt)
    subst eg_
    have htkb_ := tkc_le (g := g) (n := en) (p := tke g en sp)
    refine lv_aload_n hx hb dX6_readMode_21 rfl (lv_at hl 0 rfl) ?_
    refine lv_iconst (v := 0) hx hb dX6_readMode_22 (by decide) ?_
    refine lv_iconst (v := 3) hx hb dX6_readMode_23 (by decide) ?_
    refine pl_calli (va_runV (As := [.int 0, .int 3]) (rest := []) ⟨hx, hb, hml, hown, hT⟩ (q_numberWithin l dC dI cy L kap pr S_12 H.size o 0 3 hTy hT_o g fa pl rn rb rt en 1 (tke g en sp) ⟨hS_o, af_i hS_rt, by omega, by omega, by omega⟩ (by omega)) (cwV 2 hT (gV w554 w556 ws15 w3 w557) rfl rfl rfl (by decide +kernel) ⟨(Nat.le_of_ble_eq_true rfl), (Nat.le_of_ble_eq_true rfl)⟩) ⟨pcN.blind, pl_recv hK hW hT_o.1 hS_o rfl, pcN.pre hW.1 hK hW.2.1 hN (fun q h => absurd h List.not_mem_nil)⟩ rfl rfl hl.1 rfl (lv_room (Nat.le_of_ble_eq_true rfl)) dX6_readMode_24 ⟨(Nat.le_of_ble_eq_true rfl), (Nat.le_of_ble_eq_true rfl)⟩) hW hA0 hA (fun r_15 S_14 H locs hrel hW => ?_)
    obtain ⟨hTy, hF1, hx1⟩ := hrel
    have hFr := hFr.tr hF1 (by decide)
    have hS_rb := hF1.at hT_rb (by decide) hS_rb
    have hS_x_6 := hF1.at hT_x_6 (by decide) hS_x_6
    have hS_rt := hF1.at hT_rt (by decide) hS_rt
    obtain ⟨fa16, pl16, hQ16, hER16, hOK16⟩ := hx1
    obtain ⟨hS_o, hT_rn, hT_rb, hT_rt, hQg_, hen_, hta_, hte_⟩ := RQk hTy hT_o hQ16
    obtain ⟨f_17, hS_rt⟩ := hTy.k27 hT_rt
    have eg_ := hQg_.symm.trans (af_i hS_rt)
    subst eg_
    refine lv_istore_n (lv' := [(1, .int r_15), (0, .ref o)]) hx hb dX6_readMode_27 rfl hl (by decide) rfl (fun ls hl => ?_)
    refine lv_aload_n hx hb dX6_readMode_28 rfl (lv_at hl 1 rfl) ?_
    refine pl_get (ci := 6) (v := .int fa16) (C := RX6) (T := TX6) (N := 10) hx hb hT iX6 hown hK hW hT_o.1 hS_o rfl 0 (by decide) w139 rfl dX6_readMode_29 ?_
    refine lv_if_ne (tgt := 43) hx hb dX6_readMode_32 (by decide) (fun c_32 => ?_) (fun c_32 => ?_)
    · refine lv_aload_n hx hb dX6_readMode_43 rfl (lv_at hl 1 rfl) ?_
      refine pl_callv (va_runV (As := []) (rest := []) ⟨hx, hb, hml, hown, hT⟩ (q_next l dC dI cy L kap pr ad S_14 H.size o hTy hT_o g fa16 pl16 rn rb rt en 1 (nI (tkc g en (tke g en sp))) (SK g en (tke g en sp)) (tke g en (tke g en sp)) ⟨hS_o, af_i hS_rt, by omega, by omega, by omega⟩ (by omega)) (cwV 0 hT (gV w420 w422 ws0 w3 w423) rfl rfl rfl (by decide +kernel) ⟨(Nat.le_of_ble_eq_true rfl), (Nat.le_of_ble_eq_true rfl)⟩) ⟨pcS.blind, pl_recv hK hW hT_o.1 hS_o rfl, pcS.pre hW.1 hK hW.2.1 hN hSTR hW.2.2⟩ rfl rfl hl.1 rfl (lv_room (Nat.le_of_ble_eq_true rfl)) dX6_readMode_44 ⟨(Nat.le_of_ble_eq_true rfl), (Nat.le_of_ble_eq_true rfl)⟩) hW hA0 hA (fun S_18 H locs hrel hW => ?_)
      obtain ⟨hTy, hF1, hx1⟩ := hrel
      have hFr := hFr.tr hF1 (by decide)
      have hS_rb := hF1.at hT_rb (by decide) hS_rb
      have hS_x_6 := hF1.at hT_x_6 (by decide) hS_x_6
      have hS_rt := hF1.at hT_rt (by decide) hS_rt
      have htb_ := tke_b (g := g) (n := en) (p := tke g en (tke g en sp)) (by omega) (by omega)
      have hsg_ := SK_ge (g := g) (n := en) (i := tke g en (tke g en sp))
      obtain ⟨hS_o, hT_rn, hT_rb, hT_rt, hQg_, hen_, hta_, hte_⟩ := RQk hTy hT_o hx1
      obtain ⟨f_19, hS_rt⟩ := hTy.k27 hT_rt
      have eg_ := hQg_.symm.trans (af_i hS_rt)
      subst eg_
      have htkb_ := tkc_le (g := g) (n := en) (p := tke g en (tke g en sp))
      exact W.vret hx hb hr (fun t ht h9 => ⟨⟨S_18, rfl, ⟨hTy, hFr, ⟨_, _, ⟨hS_o, af_i hS_rt, by omega, by omega, by omega⟩, by rw [if_pos c_4]; exact ERR_2 (show 0 < 100 from by decide) ERR_0 hER16, ⟨inf_i hS_rb rfl, by omega, by rw [fld_i hS_rb rfl hS_x_6]; exact hbk_⟩⟩⟩, by rw [ht]; exact hW.1, va_K.moved h9.alike hK, hW.2.1⟩, hW.2.2.F ht⟩) hW.2.2.2.2 dX6_readMode_47
    · refine lv_aload_n hx hb dX6_readMode_35 rfl (lv_at hl 1 rfl) ?_
      refine pl_get (ci := 6) (v := .ref rb) (C := RX6) (T := TX6) (N := 10) hx hb hT iX6 hown hK hW hT_o.1 hS_o rfl 3 (by decide) w145 rfl dX6_readMode_36 ?_
      refine lv_iload_n hx hb dX6_readMode_39 rfl (lv_at hl 0 rfl) ?_
      refine pl_put (ci := 0) (v := .int r_15) (ty := .int) (C := RX0) (T := TX0) (N := 8) (fs' := [.ref x_2, .ref x_3, .ref x_4, .ref x_5, .ref x_6, .ref x_7, .int (nI mn), .int r_15]) hx hb hT iX0 tyX0 tyX0_ok nmX0 hown hK hW hT_rb.1 hS_rb rfl 7 (by decide) w119 rfl (by decide +kernel) rfl rfl (Nat.le_of_ble_eq_true rfl) rfl dX6_readMode_40 (fun H locs S_20 e1 hW => ?_)
      have hTy := hTy.u0 e1 hT_rb ⟨x_2, x_3, x_4, x_5, x_6, x_7, mn, r_15, rfl, hT_x_2, hT_x_3, hT_x_4, hT_x_5, hT_x_6, hT_x_7, (by omega)⟩
      have hS_x_6 := un e1 hT_x_6 hT_rb (by decide) hS_x_6
      have hS_o := un e1 hT_o hT_rb (by decide) hS_o
      have hS_rt := un e1 hT_rt hT_rb (by decide) hS_rt
      have hFr := uf hFr e1 hT_rb (by decide) (by decide)
      have hS_rb := us e1
      refine lv_aload_n hx hb dX6_readMode_43 rfl (lv_at hl 1 rfl) ?_
      refine pl_callv (va_runV (As := []) (rest := []) ⟨hx, hb, hml, hown, hT⟩ (q_next l dC dI cy L kap pr ad S_20 H.size o hTy hT_o g fa16 pl16 rn rb rt en 1 (nI (tkc g en (tke g en sp))) (SK g en (tke g en sp)) (tke g en (tke g en sp)) ⟨hS_o, af_i hS_rt, by omega, by omega, by omega⟩ (by omega)) (cwV 0 hT (gV w420 w422 ws0 w3 w423) rfl rfl rfl (by decide +kernel) ⟨(Nat.le_of_ble_eq_true rfl), (Nat.le_of_ble_eq_true rfl)⟩) ⟨pcS.blind, pl_recv hK hW hT_o.1 hS_o rfl, pcS.pre hW.1 hK hW.2.1 hN hSTR hW.2.2⟩ rfl rfl hl.1 rfl (lv_room (Nat.le_of_ble_eq_true rfl)) dX6_readMode_44 ⟨(Nat.le_of_ble_eq_true rfl), (Nat.le_of_ble_eq_true rfl)⟩) hW hA0 hA (fun S_21 H locs hrel hW => ?_)
      obtain ⟨hTy, hF1, hx1⟩ := hrel
      have hFr := hFr.tr hF1 (by decide)
      have hS_rb := hF1.at hT_rb (by decide) hS_rb
      have hS_x_6 := hF1.at hT_x_6 (by decide) hS_x_6
      have hS_rt := hF1.at hT_rt (by decide) hS_rt
      have htb_ := tke_b (g := g) (n := en) (p := tke g en (tke g en sp)) (by omega) (by omega)
      have hsg_ := SK_ge (g := g) (n := en) (i := tke g en (tke g en sp))
      obtain ⟨hS_o, hT_rn, hT_rb, hT_rt, hQg_, hen_, hta_, hte_⟩ := RQk hTy hT_o hx1
      obtain ⟨f_22, hS_rt⟩ := hTy.k27 hT_rt
      have eg_ := hQg_.symm.trans (af_i hS_rt)
      subst eg_
      have htkb_ := tkc_le (g := g) (n := en) (p := tke g en (tke g en sp))
      exact W.vret hx hb hr (fun t ht h9 => ⟨⟨S_21, rfl, ⟨hTy, hFr, ⟨_, _, ⟨hS_o, af_i hS_rt, by omega, by omega, by omega⟩, by rw [if_pos c_4]; exact ERR_2 (show 0 < 100 from by decide) ERR_0 hER16, ⟨inf_i hS_rb rfl, by omega, by rw [fld_i hS_rb rfl hS_x_6]; exact hbk_⟩⟩⟩, by rw [ht]; exact hW.1, va_K.moved h9.alike hK, hW.2.1⟩, hW.2.2.F ht⟩) hW.2.2.2.2 dX6_readMode_47
  · refine lv_aload_n hx hb dX6_readMode_7 rfl (lv_at hl 0 rfl) ?_
    refine lv_iconst (v := 1) hx hb dX6_readMode_8 (by decide) ?_
    refine pl_callv (va_runV (As := [.int 1]) (rest := []) ⟨hx, hb, hml, hown, hT⟩ (q_fail l dC dI cy L kap pr S s.heap.size o 1 hTy hT_o g fa pl rn rb rt en mt (nI (tkc g en sp)) (SK g en sp) (tke g en sp) ⟨hS_o, af_i hS_rt, by omega, by omega, by omega⟩) (cwV 1 hT (gV w500 w502 ws5 w3 w503) rfl rfl rfl (by decide +kernel) ⟨(Nat.le_of_ble_eq_true rfl), (Nat.le_of_ble_eq_true rfl)⟩) ⟨pcN.blind, pl_recv hK hW hT_o.1 hS_o rfl, pcN.pre hW.1 hK hW.2.1 hN (fun q h => absurd h List.not_mem_nil)⟩ rfl rfl hl.1 rfl (lv_room (Nat.le_of_ble_eq_true rfl)) dX6_readMode_9 ⟨(Nat.le_of_ble_eq_true rfl), (Nat.le_of_ble_eq_true rfl)⟩) hW hA0 hA (fun S_23 H locs hrel hW => ?_)
    obtain ⟨hTy, hF1, hx1⟩ := hrel
    have hFr := hFr.tr hF1 (by decide)
    have hS_rt := hF1.at hT_rt (by decide) hS_rt
    have hS_rb := hF1.at hT_rb (by decide) hS_rb
    have hS_x_6 := hF1.at hT_x_6 (by decide) hS_x_6
    obtain ⟨fa24, pl24, hQ24, hfa24, hfb24⟩ := hx1
    obtain ⟨hS_o, hT_rn, hT_rb, hT_rt, hQg_, hen_, hta_, hte_⟩ := RQk hTy hT_o hQ24
    obtain ⟨f_25, hS_rt⟩ := hTy.k27 hT_rt
    have eg_ := hQg_.symm.trans (af_i hS_rt)
    subst eg_
    refine lv_aload_n hx hb dX6_readMode_12 rfl (lv_at hl 0 rfl) ?_
    refine lv_iconst (v := 1) hx hb dX6_readMode_13 (by decide) ?_
    refine pl_put (ci := 6) (v := .int 1) (ty := .boolean) (C := RX6) (T := TX6) (N := 10) (fs' := [.int fa24, .int pl24, .ref rn, .ref rb, .ref rt, .int (nI en), .int 1, .int (nI (tkc g en sp)), .int (nI (SK g en sp)), .int (nI (tke g en sp))]) hx hb hT iX6 tyX6 tyX6_ok nmX6 hown hK hW hT_o.1 hS_o rfl 6 (by decide) w149 rfl (by decide +kernel) rfl rfl (Nat.le_of_ble_eq_true rfl) rfl dX6_readMode_14 (fun H locs S_26 e1 hW => ?_)
    have hTy := hTy.u6 e1 hT_o ⟨fa24, pl24, rn, rb, rt, en, 1, nI (tkc g en sp), SK g en sp, tke g en sp, rfl, hT_rn, hT_rb, hT_rt, (by omega), (by omega), (by omega)⟩
    have hS_rb := un e1 hT_rb hT_o (by decide) hS_rb
    have hS_x_6 := un e1 hT_x_6 hT_o (by decide) hS_x_6
    have hS_rt := un e1 hT_rt hT_o (by decide) hS_rt
    have hFr := uf hFr e1 hT_o (by decide) (by decide)
    have hS_o := us e1
    refine lv_aload_n hx hb dX6_readMode_17 rfl (lv_at hl 0 rfl) ?_
    refine pl_callv (va_runV (As := []) (rest := []) ⟨hx, hb, hml, hown, hT⟩ (q_next l dC dI cy L kap pr ad S_26 H.size o hTy hT_o g fa24 pl24 rn rb rt en 1 (nI (tkc g en sp)) (SK g en sp) (tke g en sp) ⟨hS_o, af_i hS_rt, by omega, by omega, by omega⟩ (by omega)) (cwV 0 hT (gV w420 w422 ws0 w3 w423) rfl rfl rfl (by decide +kernel) ⟨(Nat.le_of_ble_eq_true rfl), (Nat.le_of_ble_eq_true rfl)⟩) ⟨pcS.blind, pl_recv hK hW hT_o.1 hS_o rfl, pcS.pre hW.1 hK hW.2.1 hN hSTR hW.2.2⟩ rfl rfl hl.1 rfl (lv_room (Nat.le_of_ble_eq_true rfl)) dX6_readMode_18 ⟨(Nat.le_of_ble_eq_true rfl), (Nat.le_of_ble_eq_true rfl)⟩) hW hA0 hA (fun S_27 H locs hrel hW => ?_)
    obtain ⟨hTy, hF1, hx1⟩ := hrel
    have hFr := hFr.tr hF1 (by decide)
    have hS_rb := hF1.at hT_rb (by decide) hS_rb
    have hS_x_6 := hF1.at hT_x_6 (by decide) hS_x_6
    have hS_rt := hF1.at hT_rt (by decide) hS_rt
    have htb_ := tke_b (g := g) (n := en) (p := tke g en sp) (by omega) (by omega)
    have hsg_ := SK_ge (g := g) (n := en) (i := tke g en sp)
    obtain ⟨hS_o, hT_rn, hT_rb, hT_rt, hQg_, hen_, hta_, hte_⟩ := RQk hTy hT_o hx1
    obtain ⟨f_28, hS_rt⟩ := hTy.k27 hT_rt
    have eg_ := hQg_.symm.trans (af_i hS_rt)
    subst eg_
    have htkb_ := tkc_le (g := g) (n := en) (p := tke g en sp)
    refine lv_aload_n hx hb dX6_readMode_21 rfl (lv_at hl 0 rfl) ?_
    refine lv_iconst (v := 0) hx hb dX6_readMode_22 (by decide) ?_
    refine lv_iconst (v := 3) hx hb dX6_readMode_23 (by decide) ?_
    refine pl_calli (va_runV (As := [.int 0, .int 3]) (rest := []) ⟨hx, hb, hml, hown, hT⟩ (q_numberWithin l dC dI cy L kap pr S_27 H.size o 0 3 hTy hT_o g fa24 pl24 rn rb rt en 1 (tke g en sp) ⟨hS_o, af_i hS_rt, by omega, by omega, by omega⟩ (by omega)) (cwV 2 hT (gV w554 w556 ws15 w3 w557) rfl rfl rfl (by decide +kernel) ⟨(Nat.le_of_ble_eq_true rfl), (Nat.le_of_ble_eq_true rfl)⟩) ⟨pcN.blind, pl_recv hK hW hT_o.1 hS_o rfl, pcN.pre hW.1 hK hW.2.1 hN (fun q h => absurd h List.not_mem_nil)⟩ rfl rfl hl.1 rfl (lv_room (Nat.le_of_ble_eq_true rfl)) dX6_readMode_24 ⟨(Nat.le_of_ble_eq_true rfl), (Nat.le_of_ble_eq_true rfl)⟩) hW hA0 hA (fun r_30 S_29 H locs hrel hW => ?_)
    obtain ⟨hTy, hF1, hx1⟩ := hrel
    have hFr := hFr.tr hF1 (by decide)
    have hS_rb := hF1.at hT_rb (by decide) hS_rb
    have hS_x_6 := hF1.at hT_x_6 (by decide) hS_x_6
    have hS_rt := hF1.at hT_rt (by decide) hS_rt
    obtain ⟨fa31, pl31, hQ31, hER31, hOK31⟩ := hx1
    obtain ⟨hS_o, hT_rn, hT_rb, hT_rt, hQg_, hen_, hta_, hte_⟩ := RQk hTy hT_o hQ31
    obtain ⟨f_32, hS_rt⟩ := hTy.k27 hT_rt
    have eg_ := hQg_.symm.trans (af_i hS_rt)
    subst eg_
    refine lv_istore_n (lv' := [(1, .int r_30), (0, .ref o)]) hx hb dX6_readMode_27 rfl hl (by decide) rfl (fun ls hl => ?_)
    refine lv_aload_n hx hb dX6_readMode_28 rfl (lv_at hl 1 rfl) ?_
    refine pl_get (ci := 6) (v := .int fa31) (C := RX6) (T := TX6) (N := 10) hx hb hT iX6 hown hK hW hT_o.1 hS_o rfl 0 (by decide) w139 rfl dX6_readMode_29 ?_
    refine lv_if_ne (tgt := 43) hx hb dX6_readMode_32 (by decide) (fun c_32 => ?_) (fun c_32 => ?_)
    · refine lv_aload_n hx hb dX6_readMode_43 rfl (lv_at hl 1 rfl) ?_
      refine pl_callv (va_runV (As := []) (rest := []) ⟨hx, hb, hml, hown, hT⟩ (q_next l dC dI cy L kap pr ad S_29 H.size o hTy hT_o g fa31 pl31 rn rb rt en 1 (nI (tkc g en (tke g en sp))) (SK g en (tke g en sp)) (tke g en (tke g en sp)) ⟨hS_o, af_i hS_rt, by omega, by omega, by omega⟩ (by omega)) (cwV 0 hT (gV w420 w422 ws0 w3 w423) rfl rfl rfl (by decide +kernel) ⟨(Nat.le_of_ble_eq_true rfl), (Nat.le_of_ble_eq_true rfl)⟩) ⟨pcS.blind, pl_recv hK hW hT_o.1 hS_o rfl, pcS.pre hW.1 hK hW.2.1 hN hSTR hW.2.2⟩ rfl rfl hl.1 rfl (lv_room (Nat.le_of_ble_eq_true rfl)) dX6_readMode_44 ⟨(Nat.le_of_ble_eq_true rfl), (Nat.le_of_ble_eq_true rfl)⟩) hW hA0 hA (fun S_33 H locs hrel hW => ?_)
      obtain ⟨hTy, hF1, hx1⟩ := hrel
      have hFr := hFr.tr hF1 (by decide)
      have hS_rb := hF1.at hT_rb (by decide) hS_rb
      have hS_x_6 := hF1.at hT_x_6 (by decide) hS_x_6
      have hS_rt := hF1.at hT_rt (by decide) hS_rt
      have htb_ := tke_b (g := g) (n := en) (p := tke g en (tke g en sp)) (by omega) (by omega)
      have hsg_ := SK_ge (g := g) (n := en) (i := tke g en (tke g en sp))
      obtain ⟨hS_o, hT_rn, hT_rb, hT_rt, hQg_, hen_, hta_, hte_⟩ := RQk hTy hT_o hx1
      obtain ⟨f_34, hS_rt⟩ := hTy.k27 hT_rt
      have eg_ := hQg_.symm.trans (af_i hS_rt)
      subst eg_
      have htkb_ := tkc_le (g := g) (n := en) (p := tke g en (tke g en sp))
      exact W.vret hx hb hr (fun t ht h9 => ⟨⟨S_33, rfl, ⟨hTy, hFr, ⟨_, _, ⟨hS_o, af_i hS_rt, by omega, by omega, by omega⟩, by rw [if_neg c_4]; exact ERR_2 (show 1 < 100 from by decide) (ERR_f hfa24 hfb24 (show (1 : Nat) ≠ 0 from by decide)) hER31, ⟨inf_i hS_rb rfl, by omega, by rw [fld_i hS_rb rfl hS_x_6]; exact hbk_⟩⟩⟩, by rw [ht]; exact hW.1, va_K.moved h9.alike hK, hW.2.1⟩, hW.2.2.F ht⟩) hW.2.2.2.2 dX6_readMode_47
    · refine lv_aload_n hx hb dX6_readMode_35 rfl (lv_at hl 1 rfl) ?_
      refine pl_get (ci := 6) (v := .ref rb) (C := RX6) (T := TX6) (N := 10) hx hb hT iX6 hown hK hW hT_o.1 hS_o rfl 3 (by decide) w145 rfl dX6_readMode_36 ?_
      refine lv_iload_n hx hb dX6_readMode_39 rfl (lv_at hl 0 rfl) ?_
      refine pl_put (ci := 0) (v := .int r_30) (ty := .int) (C := RX0) (T := TX0) (N := 8) (fs' := [.ref x_2, .ref x_3, .ref x_4, .ref x_5, .ref x_6, .ref x_7, .int (nI mn), .int r_30]) hx hb hT iX0 tyX0 tyX0_ok nmX0 hown hK hW hT_rb.1 hS_rb rfl 7 (by decide) w119 rfl (by decide +kernel) rfl rfl (Nat.le_of_ble_eq_true rfl) rfl dX6_readMode_40 (fun H locs S_35 e1 hW => ?_)
      have hTy := hTy.u0 e1 hT_rb ⟨x_2, x_3, x_4, x_5, x_6, x_7, mn, r_30, rfl, hT_x_2, hT_x_3, hT_x_4, hT_x_5, hT_x_6, hT_x_7, (by omega)⟩
      have hS_x_6 := un e1 hT_x_6 hT_rb (by decide) hS_x_6
      have hS_o := un e1 hT_o hT_rb (by decide) hS_o
      have hS_rt := un e1 hT_rt hT_rb (by decide) hS_rt
      have hFr := uf hFr e1 hT_rb (by decide) (by decide)
      have hS_rb := us e1
      refine lv_aload_n hx hb dX6_readMode_43 rfl (lv_at hl 1 rfl) ?_
      refine pl_callv (va_runV (As := []) (rest := []) ⟨hx, hb, hml, hown, hT⟩ (q_next l dC dI cy L kap pr ad S_35 H.size o hTy hT_o g fa31 pl31 rn rb rt en 1 (nI (tkc g en (tke g en sp))) (SK g en (tke g en sp)) (tke g en (tke g en sp)) ⟨hS_o, af_i hS_rt, by omega, by omega, by omega⟩ (by omega)) (cwV 0 hT (gV w420 w422 ws0 w3 w423) rfl rfl rfl (by decide +kernel) ⟨(Nat.le_of_ble_eq_true rfl), (Nat.le_of_ble_eq_true rfl)⟩) ⟨pcS.blind, pl_recv hK hW hT_o.1 hS_o rfl, pcS.pre hW.1 hK hW.2.1 hN hSTR hW.2.2⟩ rfl rfl hl.1 rfl (lv_room (Nat.le_of_ble_eq_true rfl)) dX6_readMode_44 ⟨(Nat.le_of_ble_eq_true rfl), (Nat.le_of_ble_eq_true rfl)⟩) hW hA0 hA (fun S_36 H locs hrel hW => ?_)
      obtain ⟨hTy, hF1, hx1⟩ := hrel
      have hFr := hFr.tr hF1 (by decide)
      have hS_rb := hF1.at hT_rb (by decide) hS_rb
      have hS_x_6 := hF1.at hT_x_6 (by decide) hS_x_6
      have hS_rt := hF1.at hT_rt (by decide) hS_rt
      have htb_ := tke_b (g := g) (n := en) (p := tke g en (tke g en sp)) (by omega) (by omega)
      have hsg_ := SK_ge (g := g) (n := en) (i := tke g en (tke g en sp))
      obtain ⟨hS_o, hT_rn, hT_rb, hT_rt, hQg_, hen_, hta_, hte_⟩ := RQk hTy hT_o hx1
      obtain ⟨f_37, hS_rt⟩ := hTy.k27 hT_rt
      have eg_ := hQg_.symm.trans (af_i hS_rt)
      subst eg_
      have htkb_ := tkc_le (g := g) (n := en) (p := tke g en (tke g en sp))
      exact W.vret hx hb hr (fun t ht h9 => ⟨⟨S_36, rfl, ⟨hTy, hFr, ⟨_, _, ⟨hS_o, af_i hS_rt, by omega, by omega, by omega⟩, by rw [if_neg c_4]; exact ERR_2 (show 1 < 100 from by decide) (ERR_f hfa24 hfb24 (show (1 : Nat) ≠ 0 from by decide)) hER31, ⟨inf_i hS_rb rfl, by omega, by rw [fld_i hS_rb rfl hS_x_6]; exact hbk_⟩⟩⟩, by rw [ht]; exact hW.1, va_K.moved h9.alike hK, hW.2.1⟩, hW.2.2.F ht⟩) hW.2.2.2.2 dX6_readMode_47

