section CAP
variable {g : Nat → Int32} {n p np o num : Nat} {df : Nat → Nat × Nat} {wr wa wr1 wa1 wr2 wa2 gi ti : Int32}
theorem ptc_lt (h : ptc g n df o num p = 0) : FN g df o num (SK g n p) (tke g n p - SK g n p) < num := by
  unfold ptc at h
  by_cases q : tkc g n p = 4
  · rw [if_pos q] at h
    by_cases q2 : FN g df o num (SK g n p) (tke g n p - SK g n p) < num
    · exact q2
    · rw [if_neg q2] at h
      omega
  · rw [if_neg q] at h
    omega
theorem oth2 (hE : ERR wr wa (ptc g n df 0 np p) (SK g n p) wr1 wa1) (hS : ERR wr1 wa1 (if gi = ti then 5 else 0) (SK g n p) wr2 wa2) (ht : ptc g n df 0 np p = 0 → ti = nI (FN g df 0 np (SK g n p) (tke g n p - SK g n p))) : ERR wr wa (otc g n df np p gi) (SK g n p) wr2 wa2 := by
  by_cases hz : ptc g n df 0 np p = 0
  · have e := ht hz
    have ho : otc g n df np p gi = if gi = ti then 5 else 0 := by
      unfold otc
      rw [if_neg (fun z => z hz), ← e]
      by_cases q : gi = ti
      · rw [if_pos q, if_pos q.symm]
      · rw [if_neg q, if_neg (fun z => q z.symm)]
    rw [ho]
    by_cases h0 : wr = 0
    · obtain ⟨e1, e2⟩ := ERR_z hE h0 hz
      rw [e1, e2] at hS
      rw [h0]
      exact hS
    · obtain ⟨e1, e2⟩ := hE.1 h0
      rw [e1, e2] at hS
      exact hS
  · have ho : otc g n df np p gi = ptc g n df 0 np p := by
      unfold otc
      rw [if_pos hz]
    rw [ho]
    by_cases h0 : wr = 0
    · obtain ⟨e1, e2, e3⟩ := ERR_n hE h0 hz ptc_b
      obtain ⟨s1, s2⟩ := hS.1 e1
      exact ERR_e h0 hz ⟨s1.trans e2, s2.trans e3⟩
    · obtain ⟨e1, e2⟩ := hE.1 h0
      obtain ⟨s1, s2⟩ := hS.1 (by rw [e1]; exact h0)
      exact ⟨fun _ => ⟨s1.trans e1, s2.trans e2⟩, fun z => absurd z h0⟩
end CAP

set_option maxHeartbeats 4000000 in
set_option maxRecDepth 100000 in
theorem q_readCap (l : Launch) (dC : Nat → ClassId) (dI : Nat → Nat → Nat) (cy : Nat → ClassId) (L : List Nat) (kap : Nat → Nat) (pr : Pr) (ad : (Nat → Nat) × (Nat → Nat)) (S : Nat → va_E) (sz : Nat) (o : Nat) (hTy : Ty cy L kap pr S) (hT_o : TK L kap o 6) (g : Nat → Int32) (fa : Int32) (pl : Int32) (rn : Nat) (rb : Nat) (rt : Nat) (en : Nat) (mt : Int32) (sp : Nat) (hQ : RQ S o g fa pl rn rb rt en mt (nI (tkc g en sp)) (SK g en sp) (tke g en sp)) (hp : sp ≤ en) (df : Nat → Nat × Nat) (np : Nat) (nk : Nat) (hNq : NQ S g df rn np nk) (mn : Nat) (kf : Nat → Bool) (hBq : BQ S rb mn kf) : Met l yX6_readCap (wT yX6_readCap cX6_readCap 4 none) ({ frames := 7, cells := 0, slots := 0, locals := 147 }) (pcS dC dI [.ref o] sz L S (cyT cy) NLs ad) (va_Qv (fun S' => Ty cy L kap pr S' ∧ Fr kap [6, 24] S S' ∧ (∃ fa' pl', RQ S' o g fa' pl' rn rb rt en mt (nI (tkc g en (tke g en (tke g en (tke g en (tke g en sp)))))) (SK g en (tke g en (tke g en (tke g en (tke g en sp))))) (tke g en (tke g en (tke g en (tke g en (tke g en sp))))) ∧ ERR fa pl (E2 g en df np nk 4 (tke g en sp)).1 (E2 g en df np nk 4 (tke g en sp)).2 fa' pl' ∧ BQ S' rb mn kf)) (fun S' t => pB dC dI (AL L sz) (va_pl L S') (cyT cy) t) (AL L sz)) 0 0 (AL L sz) := by
  refine Met.ofW (cc := cX6_readCap) (maxL := 4) (ret := none) (by decide) rfl ?_
  intro p e s m args below meth c s₁ B hml hv
  obtain ⟨rfl, hsz, hP, hK, hD0, hN, hSTR⟩ := hv
  have hx := B.exec
  have hb := B.bytes
  have hr := B.returns
  have hT : ∀ wd ∈ TB, wd.before [.ref o].toArray s = true := fun wd h => atoms_spec (ws := wT yX6_readCap cX6_readCap 4 none) B.pre wd (List.mem_cons_of_mem _ h)
  have hown : s.vm.findClass RX6 = some m.cls := findClass_of_methodNamed B.named
  have hlocks := B.notSynchronized
  subst hsz
  have hW : PW dC dI L (AL L s.heap.size) s.heap S s.heap [] := ⟨hP, pl_self hD0, va_S.rf⟩
  have hA0 : ∀ q, q ∈ L → AL L s.heap.size q := fun _ h => Or.inl h
  have hA : ∀ q, s.heap.size ≤ q → AL L s.heap.size q := fun _ h => Or.inr h
  have hFr : Fr kap [6, 24] S S := Fr.rf
  have hl := lv_entry ([.ref o]) (n := 4) (Nat.le_of_ble_eq_true rfl)
  rw [lg_entry_eq]
  generalize (lg_sl ([.ref o]) ++ List.replicate (4 - (lg_sl ([.ref o])).length) Slot.unset).toArray = ls at hl ⊢
  have hl : lv_has ls 4 [(0, .ref o)] := hl
  obtain ⟨hS_o, hT_rn, hT_rb, hT_rt, hQg_, hen_, hta_, hte_⟩ := RQk hTy hT_o hQ
  obtain ⟨f_1, hS_rt⟩ := hTy.k27 hT_rt
  have eg_ := hQg_.symm.trans (af_i hS_rt)
  subst eg_
  have htkb_ := tkc_le (g := g) (n := en) (p := sp)
  have htb_ := tke_b (g := g) (n := en) (p := sp) (by omega) (by omega)
  obtain ⟨x_2, x_3, x_4, x_5, hS_rn, hT_x_2, hT_x_3, hb_x_4, hb_x_5⟩ := hTy.k3 hT_rn
  obtain ⟨hn2_, hn3_, hnp_, hnk_, hN0, hN8⟩ := hNq
  obtain rfl : np = x_4 := (nI_eq (by omega) (by omega)).mp (hn2_.symm.trans (inf_i hS_rn rfl))
  obtain rfl : nk = x_5 := (nI_eq (by omega) (by omega)).mp (hn3_.symm.trans (inf_i hS_rn rfl))
  obtain ⟨f_6, hS_x_2⟩ := hTy.k25 hT_x_2
  obtain ⟨f_7, hS_x_3, hi_f_7⟩ := hTy.k26 hT_x_3
  rw [fld_i hS_rn rfl hS_x_2, fld_i hS_rn rfl hS_x_3] at hN0
  rw [fld_i hS_rn rfl hS_x_2, fld_i hS_rn rfl hS_x_3] at hN8
  obtain ⟨x_8, x_9, x_10, x_11, x_12, x_13, x_14, x_15, hS_rb, hT_x_8, hT_x_9, hT_x_10, hT_x_11, hT_x_12, hT_x_13, hb_x_14⟩ := hTy.k0 hT_rb
  obtain ⟨f_16, hS_x_12⟩ := hTy.k23 hT_x_12
  obtain ⟨hb6_, hb40_, hbk_⟩ := hBq
  obtain rfl : mn = x_14 := (nI_eq (by omega) (by omega)).mp (hb6_.symm.trans (inf_i hS_rb rfl))
  rw [fld_i hS_rb rfl hS_x_12] at hbk_
  have htb1_ := tke_b (g := g) (n := en) (p := tke g en sp) (by omega) (by omega)
  have htb2_ := tke_b (g := g) (n := en) (p := tke g en (tke g en sp)) (by omega) (by omega)
  have htb3_ := tke_b (g := g) (n := en) (p := tke g en (tke g en (tke g en sp))) (by omega) (by omega)
  refine lv_aload_n hx hb dX6_readCap_0 rfl (lv_at hl 0 rfl) ?_
  refine pl_callv (va_runV (As := []) (rest := []) ⟨hx, hb, hml, hown, hT⟩ (q_next l dC dI cy L kap pr ad S s.heap.size o hTy hT_o g fa pl rn rb rt en mt (nI (tkc g en sp)) (SK g en sp) (tke g en sp) ⟨hS_o, af_i hS_rt, by omega, by omega, by omega⟩ (by omega)) (cwV 0 hT (gV w420 w422 ws0 w3 w423) rfl rfl rfl (by decide +kernel) ⟨(Nat.le_of_ble_eq_true rfl), (Nat.le_of_ble_eq_true rfl)⟩) ⟨pcS.blind, pl_recv hK hW hT_o.1 hS_o rfl, pcS.pre hW.1 hK hW.2.1 hN hSTR hW.2.2⟩ rfl rfl hl.1 rfl (lv_room (Nat.le_of_ble_eq_true rfl)) dX6_readCap_1 ⟨(Nat.le_of_ble_eq_true rfl), (Nat.le_of_ble_eq_true rfl)⟩) hW hA0 hA (fun S_17 H locs hrel hW => ?_)
  obtain ⟨hTy, hF1, hx1⟩ := hrel
  have hFr := hFr.tr hF1 (by decide)
  have hS_rt := hF1.at hT_rt (by decide) hS_rt
  have hS_rn := hF1.at hT_rn (by decide) hS_rn
  have hS_x_2 := hF1.at hT_x_2 (by decide) hS_x_2
  have hS_x_3 := hF1.at hT_x_3 (by decide) hS_x_3
  have hS_rb := hF1.at hT_rb (by decide) hS_rb
  have hS_x_12 := hF1.at hT_x_12 (by decide) hS_x_12
  have htb_ := tke_b (g := g) (n := en) (p := tke g en sp) (by omega) (by omega)
  have hsg_ := SK_ge (g := g) (n := en) (i := tke g en sp)
  obtain ⟨hS_o, hT_rn, hT_rb, hT_rt, hQg_, hen_, hta_, hte_⟩ := RQk hTy hT_o hx1
  obtain ⟨f_18, hS_rt⟩ := hTy.k27 hT_rt
  have eg_ := hQg_.symm.trans (af_i hS_rt)
  subst eg_
  have htkb_ := tkc_le (g := g) (n := en) (p := tke g en sp)
  refine lv_aload_n hx hb dX6_readCap_4 rfl (lv_at hl 0 rfl) ?_
  refine pl_calli (va_runV (As := []) (rest := []) ⟨hx, hb, hml, hown, hT⟩ (q_knownParty l dC dI cy L kap pr S_17 H.size o hTy hT_o g fa pl rn rb rt en mt (tke g en sp) ⟨hS_o, af_i hS_rt, by omega, by omega, by omega⟩ (by omega) df np nk ⟨inf_i hS_rn rfl, inf_i hS_rn rfl, by omega, by omega, by rw [fld_i hS_rn rfl hS_x_2, fld_i hS_rn rfl hS_x_3]; exact hN0, by rw [fld_i hS_rn rfl hS_x_2, fld_i hS_rn rfl hS_x_3]; exact hN8⟩) (cwV 0 hT (gV w545 w547 ws13 w3 w548) rfl rfl rfl (by decide +kernel) ⟨(Nat.le_of_ble_eq_true rfl), (Nat.le_of_ble_eq_true rfl)⟩) ⟨pcN.blind, pl_recv hK hW hT_o.1 hS_o rfl, pcN.pre hW.1 hK hW.2.1 hN (fun q h => absurd h List.not_mem_nil)⟩ rfl rfl hl.1 rfl (lv_room (Nat.le_of_ble_eq_true rfl)) dX6_readCap_5 ⟨(Nat.le_of_ble_eq_true rfl), (Nat.le_of_ble_eq_true rfl)⟩) hW hA0 hA (fun r_20 S_19 H locs hrel hW => ?_)
  obtain ⟨hTy, hF1, hx1⟩ := hrel
  have hFr := hFr.tr hF1 (by decide)
  have hS_rn := hF1.at hT_rn (by decide) hS_rn
  have hS_x_2 := hF1.at hT_x_2 (by decide) hS_x_2
  have hS_x_3 := hF1.at hT_x_3 (by decide) hS_x_3
  have hS_rb := hF1.at hT_rb (by decide) hS_rb
  have hS_x_12 := hF1.at hT_x_12 (by decide) hS_x_12
  have hS_rt := hF1.at hT_rt (by decide) hS_rt
  obtain ⟨fa21, pl21, hQ21, hER21, hOK21⟩ := hx1
  obtain ⟨hS_o, hT_rn, hT_rb, hT_rt, hQg_, hen_, hta_, hte_⟩ := RQk hTy hT_o hQ21
  obtain ⟨f_22, hS_rt⟩ := hTy.k27 hT_rt
  have eg_ := hQg_.symm.trans (af_i hS_rt)
  subst eg_
  refine lv_istore_n (lv' := [(1, .int r_20), (0, .ref o)]) hx hb dX6_readCap_8 rfl hl (by decide) rfl (fun ls hl => ?_)
  refine lv_aload_n hx hb dX6_readCap_9 rfl (lv_at hl 1 rfl) ?_
  refine pl_callv (va_runV (As := []) (rest := []) ⟨hx, hb, hml, hown, hT⟩ (q_next l dC dI cy L kap pr ad S_19 H.size o hTy hT_o g fa21 pl21 rn rb rt en mt (nI (tkc g en (tke g en sp))) (SK g en (tke g en sp)) (tke g en (tke g en sp)) ⟨hS_o, af_i hS_rt, by omega, by omega, by omega⟩ (by omega)) (cwV 0 hT (gV w420 w422 ws0 w3 w423) rfl rfl rfl (by decide +kernel) ⟨(Nat.le_of_ble_eq_true rfl), (Nat.le_of_ble_eq_true rfl)⟩) ⟨pcS.blind, pl_recv hK hW hT_o.1 hS_o rfl, pcS.pre hW.1 hK hW.2.1 hN hSTR hW.2.2⟩ rfl rfl hl.1 rfl (lv_room (Nat.le_of_ble_eq_true rfl)) dX6_readCap_10 ⟨(Nat.le_of_ble_eq_true rfl), (Nat.le_of_ble_eq_true rfl)⟩) hW hA0 hA (fun S_23 H locs hrel hW => ?_)
  obtain ⟨hTy, hF1, hx1⟩ := hrel
  have hFr := hFr.tr hF1 (by decide)
  have hS_rn := hF1.at hT_rn (by decide) hS_rn
  have hS_x_2 := hF1.at hT_x_2 (by decide) hS_x_2
  have hS_x_3 := hF1.at hT_x_3 (by decide) hS_x_3
  have hS_rb := hF1.at hT_rb (by decide) hS_rb
  have hS_x_12 := hF1.at hT_x_12 (by decide) hS_x_12
  have hS_rt := hF1.at hT_rt (by decide) hS_rt
  have htb_ := tke_b (g := g) (n := en) (p := tke g en (tke g en sp)) (by omega) (by omega)
  have hsg_ := SK_ge (g := g) (n := en) (i := tke g en (tke g en sp))
  obtain ⟨hS_o, hT_rn, hT_rb, hT_rt, hQg_, hen_, hta_, hte_⟩ := RQk hTy hT_o hx1
  obtain ⟨f_24, hS_rt⟩ := hTy.k27 hT_rt
  have eg_ := hQg_.symm.trans (af_i hS_rt)
  subst eg_
  have htkb_ := tkc_le (g := g) (n := en) (p := tke g en (tke g en sp))
  refine lv_aload_n hx hb dX6_readCap_13 rfl (lv_at hl 1 rfl) ?_
  refine pl_calli (va_runV (As := []) (rest := []) ⟨hx, hb, hml, hown, hT⟩ (q_knownParty l dC dI cy L kap pr S_23 H.size o hTy hT_o g fa21 pl21 rn rb rt en mt (tke g en (tke g en sp)) ⟨hS_o, af_i hS_rt, by omega, by omega, by omega⟩ (by omega) df np nk ⟨inf_i hS_rn rfl, inf_i hS_rn rfl, by omega, by omega, by rw [fld_i hS_rn rfl hS_x_2, fld_i hS_rn rfl hS_x_3]; exact hN0, by rw [fld_i hS_rn rfl hS_x_2, fld_i hS_rn rfl hS_x_3]; exact hN8⟩) (cwV 0 hT (gV w545 w547 ws13 w3 w548) rfl rfl rfl (by decide +kernel) ⟨(Nat.le_of_ble_eq_true rfl), (Nat.le_of_ble_eq_true rfl)⟩) ⟨pcN.blind, pl_recv hK hW hT_o.1 hS_o rfl, pcN.pre hW.1 hK hW.2.1 hN (fun q h => absurd h List.not_mem_nil)⟩ rfl rfl hl.1 rfl (lv_room (Nat.le_of_ble_eq_true rfl)) dX6_readCap_14 ⟨(Nat.le_of_ble_eq_true rfl), (Nat.le_of_ble_eq_true rfl)⟩) hW hA0 hA (fun r_26 S_25 H locs hrel hW => ?_)
  obtain ⟨hTy, hF1, hx1⟩ := hrel
  have hFr := hFr.tr hF1 (by decide)
  have hS_rn := hF1.at hT_rn (by decide) hS_rn
  have hS_x_2 := hF1.at hT_x_2 (by decide) hS_x_2
  have hS_x_3 := hF1.at hT_x_3 (by decide) hS_x_3
  have hS_rb := hF1.at hT_rb (by decide) hS_rb
  have hS_x_12 := hF1.at hT_x_12 (by decide) hS_x_12
  have hS_rt := hF1.at hT_rt (by decide) hS_rt
  obtain ⟨fa27, pl27, hQ27, hER27, hOK27⟩ := hx1
  obtain ⟨hS_o, hT_rn, hT_rb, hT_rt, hQg_, hen_, hta_, hte_⟩ := RQk hTy hT_o hQ27
  obtain ⟨f_28, hS_rt⟩ := hTy.k27 hT_rt
  have eg_ := hQg_.symm.trans (af_i hS_rt)
  subst eg_
  refine lv_istore_n (lv' := [(2, .int r_26), (1, .int r_20), (0, .ref o)]) hx hb dX6_readCap_17 rfl hl (by decide) rfl (fun ls hl => ?_)
  refine lv_aload_n hx hb dX6_readCap_18 rfl (lv_at hl 2 rfl) ?_
  refine lv_iload_n hx hb dX6_readCap_19 rfl (lv_at hl 1 rfl) ?_
  refine lv_iload_n hx hb dX6_readCap_20 rfl (lv_at hl 0 rfl) ?_
  refine pl_callv (va_runV (As := [.int r_20, .int r_26]) (rest := []) ⟨hx, hb, hml, hown, hT⟩ (q_failIfSame l dC dI cy L kap pr S_25 H.size o r_20 r_26 hTy hT_o g fa27 pl27 rn rb rt en mt (nI (tkc g en (tke g en (tke g en sp)))) (SK g en (tke g en (tke g en sp))) (tke g en (tke g en (tke g en sp))) ⟨hS_o, af_i hS_rt, by omega, by omega, by omega⟩) (cwV 2 hT (gV w549 w551 ws14 w3 w552) rfl rfl rfl (by decide +kernel) ⟨(Nat.le_of_ble_eq_true rfl), (Nat.le_of_ble_eq_true rfl)⟩) ⟨pcN.blind, pl_recv hK hW hT_o.1 hS_o rfl, pcN.pre hW.1 hK hW.2.1 hN (fun q h => absurd h List.not_mem_nil)⟩ rfl rfl hl.1 rfl (lv_room (Nat.le_of_ble_eq_true rfl)) dX6_readCap_21 ⟨(Nat.le_of_ble_eq_true rfl), (Nat.le_of_ble_eq_true rfl)⟩) hW hA0 hA (fun S_29 H locs hrel hW => ?_)
  obtain ⟨hTy, hF1, hx1⟩ := hrel
  have hFr := hFr.tr hF1 (by decide)
  have hS_rn := hF1.at hT_rn (by decide) hS_rn
  have hS_x_2 := hF1.at hT_x_2 (by decide) hS_x_2
  have hS_x_3 := hF1.at hT_x_3 (by decide) hS_x_3
  have hS_rb := hF1.at hT_rb (by decide) hS_rb
  have hS_x_12 := hF1.at hT_x_12 (by decide) hS_x_12
  have hS_rt := hF1.at hT_rt (by decide) hS_rt
  obtain ⟨fa30, pl30, hQ30, hER30⟩ := hx1
  obtain ⟨hS_o, hT_rn, hT_rb, hT_rt, hQg_, hen_, hta_, hte_⟩ := RQk hTy hT_o hQ30
  obtain ⟨f_31, hS_rt⟩ := hTy.k27 hT_rt
  have eg_ := hQg_.symm.trans (af_i hS_rt)
  subst eg_
  refine lv_aload_n hx hb dX6_readCap_24 rfl (lv_at hl 2 rfl) ?_
  refine pl_callv (va_runV (As := []) (rest := []) ⟨hx, hb, hml, hown, hT⟩ (q_next l dC dI cy L kap pr ad S_29 H.size o hTy hT_o g fa30 pl30 rn rb rt en mt (nI (tkc g en (tke g en (tke g en sp)))) (SK g en (tke g en (tke g en sp))) (tke g en (tke g en (tke g en sp))) ⟨hS_o, af_i hS_rt, by omega, by omega, by omega⟩ (by omega)) (cwV 0 hT (gV w420 w422 ws0 w3 w423) rfl rfl rfl (by decide +kernel) ⟨(Nat.le_of_ble_eq_true rfl), (Nat.le_of_ble_eq_true rfl)⟩) ⟨pcS.blind, pl_recv hK hW hT_o.1 hS_o rfl, pcS.pre hW.1 hK hW.2.1 hN hSTR hW.2.2⟩ rfl rfl hl.1 rfl (lv_room (Nat.le_of_ble_eq_true rfl)) dX6_readCap_25 ⟨(Nat.le_of_ble_eq_true rfl), (Nat.le_of_ble_eq_true rfl)⟩) hW hA0 hA (fun S_32 H locs hrel hW => ?_)
  obtain ⟨hTy, hF1, hx1⟩ := hrel
  have hFr := hFr.tr hF1 (by decide)
  have hS_rn := hF1.at hT_rn (by decide) hS_rn
  have hS_x_2 := hF1.at hT_x_2 (by decide) hS_x_2
  have hS_x_3 := hF1.at hT_x_3 (by decide) hS_x_3
  have hS_rb := hF1.at hT_rb (by decide) hS_rb
  have hS_x_12 := hF1.at hT_x_12 (by decide) hS_x_12
  have hS_rt := hF1.at hT_rt (by decide) hS_rt
  have htb_ := tke_b (g := g) (n := en) (p := tke g en (tke g en (tke g en sp))) (by omega) (by omega)
  have hsg_ := SK_ge (g := g) (n := en) (i := tke g en (tke g en (tke g en sp)))
  obtain ⟨hS_o, hT_rn, hT_rb, hT_rt, hQg_, hen_, hta_, hte_⟩ := RQk hTy hT_o hx1
  obtain ⟨f_33, hS_rt⟩ := hTy.k27 hT_rt
  have eg_ := hQg_.symm.trans (af_i hS_rt)
  subst eg_
  have htkb_ := tkc_le (g := g) (n := en) (p := tke g en (tke g en (tke g en sp)))
  refine lv_aload_n hx hb dX6_readCap_28 rfl (lv_at hl 2 rfl) ?_
  refine lv_iconst (v := 0) hx hb dX6_readCap_29 (by decide) ?_
  refine lv_ldc (v := 99999999) hx hb hown (hT _ w574) dX6_readCap_30 ?_
  refine pl_calli (va_runV (As := [.int 0, .int 99999999]) (rest := []) ⟨hx, hb, hml, hown, hT⟩ (q_numberWithin l dC dI cy L kap pr S_32 H.size o 0 99999999 hTy hT_o g fa30 pl30 rn rb rt en mt (tke g en (tke g en (tke g en sp))) ⟨hS_o, af_i hS_rt, by omega, by omega, by omega⟩ (by omega)) (cwV 2 hT (gV w554 w556 ws15 w3 w557) rfl rfl rfl (by decide +kernel) ⟨(Nat.le_of_ble_eq_true rfl), (Nat.le_of_ble_eq_true rfl)⟩) ⟨pcN.blind, pl_recv hK hW hT_o.1 hS_o rfl, pcN.pre hW.1 hK hW.2.1 hN (fun q h => absurd h List.not_mem_nil)⟩ rfl rfl hl.1 rfl (lv_room (Nat.le_of_ble_eq_true rfl)) dX6_readCap_32 ⟨(Nat.le_of_ble_eq_true rfl), (Nat.le_of_ble_eq_true rfl)⟩) hW hA0 hA (fun r_35 S_34 H locs hrel hW => ?_)
  obtain ⟨hTy, hF1, hx1⟩ := hrel
  have hFr := hFr.tr hF1 (by decide)
  have hS_rn := hF1.at hT_rn (by decide) hS_rn
  have hS_x_2 := hF1.at hT_x_2 (by decide) hS_x_2
  have hS_x_3 := hF1.at hT_x_3 (by decide) hS_x_3
  have hS_rb := hF1.at hT_rb (by decide) hS_rb
  have hS_x_12 := hF1.at hT_x_12 (by decide) hS_x_12
  have hS_rt := hF1.at hT_rt (by decide) hS_rt
  obtain ⟨fa36, pl36, hQ36, hER36, hOK36⟩ := hx1
  obtain ⟨hS_o, hT_rn, hT_rb, hT_rt, hQg_, hen_, hta_, hte_⟩ := RQk hTy hT_o hQ36
  obtain ⟨f_37, hS_rt⟩ := hTy.k27 hT_rt
  have eg_ := hQg_.symm.trans (af_i hS_rt)
  subst eg_
  refine lv_istore_n (lv' := [(3, .int r_35), (2, .int r_26), (1, .int r_20), (0, .ref o)]) hx hb dX6_readCap_35 rfl hl (by decide) rfl (fun ls hl => ?_)
  refine lv_aload_n hx hb dX6_readCap_36 rfl (lv_at hl 3 rfl) ?_
  refine pl_get (ci := 6) (v := .int fa36) (C := RX6) (T := TX6) (N := 10) hx hb hT iX6 hown hK hW hT_o.1 hS_o rfl 0 (by decide) w139 rfl dX6_readCap_37 ?_
  refine lv_if_ne (tgt := 57) hx hb dX6_readCap_40 (by decide) (fun c_40 => ?_) (fun c_40 => ?_)
  · refine lv_aload_n hx hb dX6_readCap_57 rfl (lv_at hl 3 rfl) ?_
    refine pl_callv (va_runV (As := []) (rest := []) ⟨hx, hb, hml, hown, hT⟩ (q_next l dC dI cy L kap pr ad S_34 H.size o hTy hT_o g fa36 pl36 rn rb rt en mt (nI (tkc g en (tke g en (tke g en (tke g en sp))))) (SK g en (tke g en (tke g en (tke g en sp)))) (tke g en (tke g en (tke g en (tke g en sp)))) ⟨hS_o, af_i hS_rt, by omega, by omega, by omega⟩ (by omega)) (cwV 0 hT (gV w420 w422 ws0 w3 w423) rfl rfl rfl (by decide +kernel) ⟨(Nat.le_of_ble_eq_true rfl), (Nat.le_of_ble_eq_true rfl)⟩) ⟨pcS.blind, pl_recv hK hW hT_o.1 hS_o rfl, pcS.pre hW.1 hK hW.2.1 hN hSTR hW.2.2⟩ rfl rfl hl.1 rfl (lv_room (Nat.le_of_ble_eq_true rfl)) dX6_readCap_58 ⟨(Nat.le_of_ble_eq_true rfl), (Nat.le_of_ble_eq_true rfl)⟩) hW hA0 hA (fun S_38 H locs hrel hW => ?_)
    obtain ⟨hTy, hF1, hx1⟩ := hrel
    have hFr := hFr.tr hF1 (by decide)
    have hS_rn := hF1.at hT_rn (by decide) hS_rn
    have hS_x_2 := hF1.at hT_x_2 (by decide) hS_x_2
    have hS_x_3 := hF1.at hT_x_3 (by decide) hS_x_3
    have hS_rb := hF1.at hT_rb (by decide) hS_rb
    have hS_x_12 := hF1.at hT_x_12 (by decide) hS_x_12
    have hS_rt := hF1.at hT_rt (by decide) hS_rt
    have htb_ := tke_b (g := g) (n := en) (p := tke g en (tke g en (tke g en (tke g en sp)))) (by omega) (by omega)
    have hsg_ := SK_ge (g := g) (n := en) (i := tke g en (tke g en (tke g en (tke g en sp))))
    obtain ⟨hS_o, hT_rn, hT_rb, hT_rt, hQg_, hen_, hta_, hte_⟩ := RQk hTy hT_o hx1
    obtain ⟨f_39, hS_rt⟩ := hTy.k27 hT_rt
    have eg_ := hQg_.symm.trans (af_i hS_rt)
    subst eg_
    have htkb_ := tkc_le (g := g) (n := en) (p := tke g en (tke g en (tke g en (tke g en sp))))
    exact W.vret hx hb hr (fun t ht h9 => ⟨⟨S_38, rfl, ⟨hTy, hFr, ⟨_, _, ⟨hS_o, af_i hS_rt, by omega, by omega, by omega⟩, (two_c hER21 ptc_b (oth2 hER27 hER30 hOK27) otc_b hER36 nbc_b (ERR_0 (q := 0)) (fun a b => by rw [← hOK21 b]) (fun _ _ _ => rfl) (fun _ _ _ _ => rfl)).1, ⟨inf_i hS_rb rfl, by omega, by rw [fld_i hS_rb rfl hS_x_12]; exact hbk_⟩⟩⟩, by rw [ht]; exact hW.1, va_K.moved h9.alike hK, hW.2.1⟩, hW.2.2.F ht⟩) hW.2.2.2.2 dX6_readCap_61
  · have u3_ := z_ERR hER36 c_40
    have u2_ := z_ERR hER30 u3_
    have u1_ := z_ERR hER27 u2_
    have u0_ := z_ERR hER21 u1_
    have v21_ := nz_nnc hER21 ptc_b u0_ u1_
    have l21_ := ptc_lt v21_
    have q21_ := hOK21 v21_
    have v27_ := nz_nnc hER27 ptc_b u1_ u2_
    have l27_ := ptc_lt v27_
    have q27_ := hOK27 v27_
    obtain ⟨k21, hk21⟩ : ∃ k, k = FN g df 0 np (SK g en (tke g en sp)) (tke g en (tke g en sp) - SK g en (tke g en sp)) := ⟨_, rfl⟩
    rw [← hk21] at q21_ l21_
    obtain rfl : r_20 = nI k21 := q21_
    obtain ⟨k27, hk27⟩ : ∃ k, k = FN g df 0 np (SK g en (tke g en (tke g en sp))) (tke g en (tke g en (tke g en sp)) - SK g en (tke g en (tke g en sp))) := ⟨_, rfl⟩
    rw [← hk27] at q27_ l27_
    obtain rfl : r_26 = nI k27 := q27_
    refine lv_aload_n hx hb dX6_readCap_43 rfl (lv_at hl 3 rfl) ?_
    refine pl_get (ci := 6) (v := .ref rb) (C := RX6) (T := TX6) (N := 10) hx hb hT iX6 hown hK hW hT_o.1 hS_o rfl 3 (by decide) w145 rfl dX6_readCap_44 ?_
    refine pl_get (ci := 0) (v := .ref x_13) (C := RX0) (T := TX0) (N := 8) hx hb hT iX0 hown hK hW hT_rb.1 hS_rb rfl 5 (by decide) w110 rfl dX6_readCap_47 ?_
    refine lv_iload_n hx hb dX6_readCap_50 rfl (lv_at hl 2 rfl) ?_
    refine lv_iload_n hx hb dX6_readCap_51 rfl (lv_at hl 1 rfl) ?_
    refine vp_callSi (va_Run.run (va_runSN (As := [.int (nI k21), .int (nI k27)]) (rest := [.ref x_13]) ⟨hx, hb, hml, hown, hT⟩ (s_cell l dC dI H.size k21 k27 (by omega) (by omega)) ⟨va_cnB 2 hT (gT w577) rfl rfl rfl (hN (RX6, 145, yX11_cell, RX11) (by decide +kernel)) (hT _ w1) (by decide +kernel) ⟨(Nat.le_of_ble_eq_true rfl), (Nat.le_of_ble_eq_true rfl)⟩, (hT _ w576), trivial⟩ ⟨pcW.blind, pcW.pre (va_P0 _ _ _) (hK.sub (tys' := []) [] rfl) (va_D0 (fun _ => True))⟩ rfl rfl hl.1 rfl (lv_room (Nat.le_of_ble_eq_true rfl)) dX6_readCap_52 ⟨(Nat.le_of_ble_eq_true rfl), (Nat.le_of_ble_eq_true rfl)⟩)) (fun r_40 hr_40 => ?_)
    obtain rfl : r_40 = nI (k21 * 8 + k27) := hr_40
    refine lv_iload_n hx hb dX6_readCap_55 rfl (lv_at hl 0 rfl) ?_
    obtain ⟨f_41, hS_x_13⟩ := hTy.k24 hT_x_13
    refine pl_iast hx hb hK hW hT_x_13.1 hS_x_13 (vp_in_nI (n := k21 * 8 + k27) (N := 64) (by omega) (by omega)) dX6_readCap_56 (fun H locs f_43 S_42 ef_f_43 e1 hW => ?_)
    have hTy := hTy.u24 e1 hT_x_13 ⟨f_43, rfl⟩
    have hS_rn := un e1 hT_rn hT_x_13 (by decide) hS_rn
    have hS_x_2 := un e1 hT_x_2 hT_x_13 (by decide) hS_x_2
    have hS_x_3 := un e1 hT_x_3 hT_x_13 (by decide) hS_x_3
    have hS_rb := un e1 hT_rb hT_x_13 (by decide) hS_rb
    have hS_x_12 := un e1 hT_x_12 hT_x_13 (by decide) hS_x_12
    have hS_o := un e1 hT_o hT_x_13 (by decide) hS_o
    have hS_rt := un e1 hT_rt hT_x_13 (by decide) hS_rt
    have hFr := uf hFr e1 hT_x_13 (by decide) (by decide)
    have hS_x_13 := us e1
    refine lv_aload_n hx hb dX6_readCap_57 rfl (lv_at hl 3 rfl) ?_
    refine pl_callv (va_runV (As := []) (rest := []) ⟨hx, hb, hml, hown, hT⟩ (q_next l dC dI cy L kap pr ad S_42 H.size o hTy hT_o g fa36 pl36 rn rb rt en mt (nI (tkc g en (tke g en (tke g en (tke g en sp))))) (SK g en (tke g en (tke g en (tke g en sp)))) (tke g en (tke g en (tke g en (tke g en sp)))) ⟨hS_o, af_i hS_rt, by omega, by omega, by omega⟩ (by omega)) (cwV 0 hT (gV w420 w422 ws0 w3 w423) rfl rfl rfl (by decide +kernel) ⟨(Nat.le_of_ble_eq_true rfl), (Nat.le_of_ble_eq_true rfl)⟩) ⟨pcS.blind, pl_recv hK hW hT_o.1 hS_o rfl, pcS.pre hW.1 hK hW.2.1 hN hSTR hW.2.2⟩ rfl rfl hl.1 rfl (lv_room (Nat.le_of_ble_eq_true rfl)) dX6_readCap_58 ⟨(Nat.le_of_ble_eq_true rfl), (Nat.le_of_ble_eq_true rfl)⟩) hW hA0 hA (fun S_44 H locs hrel hW => ?_)
    obtain ⟨hTy, hF1, hx1⟩ := hrel
    have hFr := hFr.tr hF1 (by decide)
    have hS_rn := hF1.at hT_rn (by decide) hS_rn
    have hS_x_2 := hF1.at hT_x_2 (by decide) hS_x_2
    have hS_x_3 := hF1.at hT_x_3 (by decide) hS_x_3
    have hS_rb := hF1.at hT_rb (by decide) hS_rb
    have hS_x_12 := hF1.at hT_x_12 (by decide) hS_x_12
    have hS_rt := hF1.at hT_rt (by decide) hS_rt
    have hS_x_13 := hF1.at hT_x_13 (by decide) hS_x_13
    have htb_ := tke_b (g := g) (n := en) (p := tke g en (tke g en (tke g en (tke g en sp)))) (by omega) (by omega)
    have hsg_ := SK_ge (g := g) (n := en) (i := tke g en (tke g en (tke g en (tke g en sp))))
    obtain ⟨hS_o, hT_rn, hT_rb, hT_rt, hQg_, hen_, hta_, hte_⟩ := RQk hTy hT_o hx1
    obtain ⟨f_45, hS_rt⟩ := hTy.k27 hT_rt
    have eg_ := hQg_.symm.trans (af_i hS_rt)
    subst eg_
    have htkb_ := tkc_le (g := g) (n := en) (p := tke g en (tke g en (tke g en (tke g en sp))))
    exact W.vret hx hb hr (fun t ht h9 => ⟨⟨S_44, rfl, ⟨hTy, hFr, ⟨_, _, ⟨hS_o, af_i hS_rt, by omega, by omega, by omega⟩, (two_c hER21 ptc_b (oth2 hER27 hER30 hOK27) otc_b hER36 nbc_b (ERR_0 (q := 0)) (fun a b => by rw [← hOK21 b]) (fun _ _ _ => rfl) (fun _ _ _ _ => rfl)).1, ⟨inf_i hS_rb rfl, by omega, by rw [fld_i hS_rb rfl hS_x_12]; exact hbk_⟩⟩⟩, by rw [ht]; exact hW.1, va_K.moved h9.alike hK, hW.2.1⟩, hW.2.2.F ht⟩) hW.2.2.2.2 dX6_readCap_61

