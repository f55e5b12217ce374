/-! the class's checks at a token -/
theorem ERR_f {wr wa wr1 wa1 : Int32} {c q : Nat} (ha : wr ≠ 0 → wr1 = wr ∧ wa1 = wa) (hb : wr = 0 → wr1 = nI c ∧ wa1 = nI q) (hc : c ≠ 0) : ERR wr wa c q wr1 wa1 := ⟨ha, fun z => ⟨(hb z).1, fun _ => (hb z).2, fun y => absurd y hc⟩⟩
section CHECK
variable {g : Nat → Int32} {n p o num np nk : Nat} {df : Nat → Nat × Nat} {lo hi : Int32}
theorem tkc_le : tkc g n p ≤ 10 := by
  rcases WR_c (g := g) (n := n) (p := p) with ⟨-, h⟩ | ⟨w, h1, -, h, -⟩ <;> omega
theorem nI_no {k : Nat} (hk : k < 2 ^ 31) : ¬ nI k = -1 := fun z => by
  have q := congrArg Int32.toInt z
  rw [nI_toInt hk] at q
  have e : (-1 : Int32).toInt = -1 := by decide
  omega
theorem nnc_1 (h : ¬ tkc g n p = 4) : nnc g n df np nk p = 1 := by
  unfold nnc
  rw [if_neg h]
theorem nnc_3 (h : tkc g n p = 4) (h2 : FN g df 0 np (SK g n p) (tke g n p - SK g n p) < np ∨ FN g df 8 nk (SK g n p) (tke g n p - SK g n p) < nk) : nnc g n df np nk p = 3 := by
  unfold nnc
  rw [if_pos h, if_pos h2]
theorem nnc_0 (h : tkc g n p = 4) (h1 : FN g df 0 np (SK g n p) (tke g n p - SK g n p) = np) (h2 : FN g df 8 nk (SK g n p) (tke g n p - SK g n p) = nk) : nnc g n df np nk p = 0 := by
  unfold nnc
  rw [if_pos h, if_neg (by omega)]
theorem ptc_1 (h : ¬ tkc g n p = 4) : ptc g n df o num p = 1 := if_neg h
theorem ptc_3 (h : tkc g n p = 4) (h1 : FN g df o num (SK g n p) (tke g n p - SK g n p) = num) : ptc g n df o num p = 3 := by
  unfold ptc
  rw [if_pos h, if_neg (by omega)]
theorem ptc_0 (h : tkc g n p = 4) (h1 : FN g df o num (SK g n p) (tke g n p - SK g n p) < num) : ptc g n df o num p = 0 := by
  unfold ptc
  rw [if_pos h, if_pos h1]
theorem nv_c {q l : Nat} {vl y z1 z2 z3 : Int32} (hv : vl = nI (NV g q l)) (hy : y = g (q + l)) (hd : isD y = true) (e1 : z1 = vl * 10) (e2 : z2 = y - 48) (e3 : z3 = z1 + z2) : z3 = nI (NV g q (l + 1)) := by
  refine nv_s hv hy hd (z1 := 10 * vl) (z2 := 10 * vl + y) rfl rfl ?_
  rw [e3, e1, e2, Int32.sub_eq_add_neg, Int32.sub_eq_add_neg, Int32.add_assoc, Int32.mul_comm]
end CHECK

theorem nle_of_lt {a b : Int32} (h : a < b) (z : b ≤ a) : False := by
  rw [Int32.lt_iff_toInt_lt] at h
  rw [Int32.le_iff_toInt_le] at z
  omega
theorem le_of_nlt {a b : Int32} (h : ¬ a < b) : b ≤ a := by
  rw [Int32.lt_iff_toInt_lt] at h
  rw [Int32.le_iff_toInt_le]
  omega
set_option maxHeartbeats 4000000 in
set_option maxRecDepth 100000 in
theorem q_fail (l : Launch) (dC : Nat → ClassId) (dI : Nat → Nat → Nat) (cy : Nat → ClassId) (L : List Nat) (kap : Nat → Nat) (pr : Pr) (S : Nat → va_E) (sz : Nat) (o : Nat) (cd : Int32) (hTy : Ty cy L kap pr S) (hT_o : TK L kap o 6) (g : Nat → Int32) (fa : Int32) (pl : Int32) (rn : Nat) (rb : Nat) (rt : Nat) (en : Nat) (mt : Int32) (tk : Int32) (ta : Nat) (te : Nat) (hQ : RQ S o g fa pl rn rb rt en mt tk ta te) : Met l yX6_fail (wT yX6_fail cX6_fail 2 none) ({ frames := 0, cells := 0, slots := 0, locals := 0 }) (pcN dC dI [.ref o, .int cd] sz (va_pl L S) (cyT cy) NLs []) (va_Qv (fun S' => Ty cy L kap pr S' ∧ Fr kap [6] S S' ∧ (∃ fa' pl', RQ S' o g fa' pl' rn rb rt en mt tk ta te ∧ (fa ≠ 0 → fa' = fa ∧ pl' = pl) ∧ (fa = 0 → fa' = cd ∧ pl' = nI ta))) (fun S' t => pB dC dI (AL L sz) (va_pl L S') (cyT cy) t) (AL L sz)) 0 0 (AL L sz) := by
  refine Met.ofW (cc := cX6_fail) (maxL := 2) (ret := none) (by decide) rfl ?_
  intro p e s m args below meth c s₁ B hml hv
  obtain ⟨rfl, hsz, hP, hK, hD0, hN, -⟩ := hv
  have hx := B.exec
  have hb := B.bytes
  have hr := B.returns
  have hT : ∀ wd ∈ TB, wd.before [.ref o, .int cd].toArray s = true := fun wd h => atoms_spec (ws := wT yX6_fail cX6_fail 2 none) B.pre wd (List.mem_cons_of_mem _ h)
  have hown : s.vm.findClass RX6 = some m.cls := findClass_of_methodNamed B.named
  have hlocks := B.notSynchronized
  subst hsz
  have hW : PW dC dI L (AL L s.heap.size) s.heap S s.heap [] := ⟨hP, pl_self hD0, va_S.rf⟩
  have hA0 : ∀ q, q ∈ L → AL L s.heap.size q := fun _ h => Or.inl h
  have hA : ∀ q, s.heap.size ≤ q → AL L s.heap.size q := fun _ h => Or.inr h
  have hFr : Fr kap [6] S S := Fr.rf
  have hl := lv_entry ([.ref o, .int cd]) (n := 2) (Nat.le_of_ble_eq_true rfl)
  rw [lg_entry_eq]
  generalize (lg_sl ([.ref o, .int cd]) ++ List.replicate (2 - (lg_sl ([.ref o, .int cd])).length) Slot.unset).toArray = ls at hl ⊢
  have hl : lv_has ls 2 [(0, .ref o), (1, .int cd)] := hl
  obtain ⟨hS_o, hT_rn, hT_rb, hT_rt, hQg_, hen_, hta_, hte_⟩ := RQk hTy hT_o hQ
  obtain ⟨f_1, hS_rt⟩ := hTy.k27 hT_rt
  have eg_ := hQg_.symm.trans (af_i hS_rt)
  subst eg_
  refine lv_aload_n hx hb dX6_fail_0 rfl (lv_at hl 0 rfl) ?_
  refine pl_get (ci := 6) (v := .int fa) (C := RX6) (T := TX6) (N := 10) hx hb hT iX6 hown hK hW hT_o.1 hS_o rfl 0 (by decide) w139 rfl dX6_fail_1 ?_
  refine lv_if_ne (tgt := 20) hx hb dX6_fail_4 (by decide) (fun c_4 => ?_) (fun c_4 => ?_)
  · exact W.vret hx hb hr (fun t ht h9 => ⟨⟨S, rfl, ⟨hTy, hFr, ⟨fa, pl, ⟨hS_o, af_i hS_rt, by omega, by omega, by omega⟩, fun _ => ⟨rfl, rfl⟩, fun z => absurd z c_4⟩⟩, by rw [ht]; exact hW.1, va_K.moved h9.alike hK, hW.2.1⟩, hW.2.2.F ht⟩) hW.2.2.2.2 dX6_fail_20
  · refine lv_aload_n hx hb dX6_fail_7 rfl (lv_at hl 0 rfl) ?_
    refine lv_iload_n hx hb dX6_fail_8 rfl (lv_at hl 1 rfl) ?_
    refine pl_put (ci := 6) (v := .int cd) (ty := .int) (C := RX6) (T := TX6) (N := 10) (fs' := [.int cd, .int pl, .ref rn, .ref rb, .ref rt, .int (nI en), .int mt, .int tk, .int (nI ta), .int (nI te)]) hx hb hT iX6 tyX6 tyX6_ok nmX6 hown hK hW hT_o.1 hS_o rfl 0 (by decide) w139 rfl (by decide +kernel) rfl rfl (Nat.le_of_ble_eq_true rfl) rfl dX6_fail_9 (fun H locs S_2 e1 hW => ?_)
    have hTy := hTy.u6 e1 hT_o ⟨cd, pl, rn, rb, rt, en, mt, tk, ta, te, rfl, hT_rn, hT_rb, hT_rt, (by omega), (by omega), (by omega)⟩
    have hS_rt := un e1 hT_rt hT_o (by decide) hS_rt
    have hFr := uf hFr e1 hT_o (by decide) (by decide)
    have hS_o := us e1
    refine lv_aload_n hx hb dX6_fail_12 rfl (lv_at hl 0 rfl) ?_
    refine lv_aload_n hx hb dX6_fail_13 rfl (lv_at hl 0 rfl) ?_
    refine pl_get (ci := 6) (v := .int (nI ta)) (C := RX6) (T := TX6) (N := 10) hx hb hT iX6 hown hK hW hT_o.1 hS_o rfl 8 (by decide) w151 rfl dX6_fail_14 ?_
    refine pl_put (ci := 6) (v := .int (nI ta)) (ty := .int) (C := RX6) (T := TX6) (N := 10) (fs' := [.int cd, .int (nI ta), .ref rn, .ref rb, .ref rt, .int (nI en), .int mt, .int tk, .int (nI ta), .int (nI te)]) hx hb hT iX6 tyX6 tyX6_ok nmX6 hown hK hW hT_o.1 hS_o rfl 1 (by decide) w141 rfl (by decide +kernel) rfl rfl (Nat.le_of_ble_eq_true rfl) rfl dX6_fail_17 (fun H locs S_3 e1 hW => ?_)
    have hTy := hTy.u6 e1 hT_o ⟨cd, nI ta, rn, rb, rt, en, mt, tk, ta, te, rfl, hT_rn, hT_rb, hT_rt, (by omega), (by omega), (by omega)⟩
    have hS_rt := un e1 hT_rt hT_o (by decide) hS_rt
    have hFr := uf hFr e1 hT_o (by decide) (by decide)
    have hS_o := us e1
    exact W.vret hx hb hr (fun t ht h9 => ⟨⟨S_3, rfl, ⟨hTy, hFr, ⟨cd, nI ta, ⟨hS_o, af_i hS_rt, by omega, by omega, by omega⟩, fun z => absurd c_4 z, fun _ => ⟨rfl, rfl⟩⟩⟩, by rw [ht]; exact hW.1, va_K.moved h9.alike hK, hW.2.1⟩, hW.2.2.F ht⟩) hW.2.2.2.2 dX6_fail_20

set_option maxHeartbeats 4000000 in
set_option maxRecDepth 100000 in
theorem q_checkNewName (l : Launch) (dC : Nat → ClassId) (dI : Nat → Nat → Nat) (cy : Nat → ClassId) (L : List Nat) (kap : Nat → Nat) (pr : Pr) (S : Nat → va_E) (sz : Nat) (o : Nat) (hTy : Ty cy L kap pr S) (hT_o : TK L kap o 6) (g : Nat → Int32) (fa : Int32) (pl : Int32) (rn : Nat) (rb : Nat) (rt : Nat) (en : Nat) (mt : Int32) (sp : Nat) (hQ : RQ S o g fa pl rn rb rt en mt (nI (tkc g en sp)) (SK g en sp) (tke g en sp)) (hp : sp ≤ en) (df : Nat → Nat × Nat) (np : Nat) (nk : Nat) (hNq : NQ S g df rn np nk) : Met l yX6_checkNewName (wT yX6_checkNewName cX6_checkNewName 1 none) ({ frames := 3, cells := 0, slots := 0, locals := 71 }) (pcN dC dI [.ref o] sz (va_pl L S) (cyT cy) NLs []) (va_Qv (fun S' => Ty cy L kap pr S' ∧ Fr kap [6] S S' ∧ (∃ fa' pl', RQ S' o g fa' pl' rn rb rt en mt (nI (tkc g en sp)) (SK g en sp) (tke g en sp) ∧ ERR fa pl (nnc g en df np nk sp) (SK g en sp) fa' pl')) (fun S' t => pB dC dI (AL L sz) (va_pl L S') (cyT cy) t) (AL L sz)) 0 0 (AL L sz) := by
  refine Met.ofW (cc := cX6_checkNewName) (maxL := 1) (ret := none) (by decide) rfl ?_
  intro p e s m args below meth c s₁ B hml hv
  obtain ⟨rfl, hsz, hP, hK, hD0, hN, -⟩ := hv
  have hx := B.exec
  have hb := B.bytes
  have hr := B.returns
  have hT : ∀ wd ∈ TB, wd.before [.ref o].toArray s = true := fun wd h => atoms_spec (ws := wT yX6_checkNewName cX6_checkNewName 1 none) B.pre wd (List.mem_cons_of_mem _ h)
  have hown : s.vm.findClass RX6 = some m.cls := findClass_of_methodNamed B.named
  have hlocks := B.notSynchronized
  subst hsz
  have hW : PW dC dI L (AL L s.heap.size) s.heap S s.heap [] := ⟨hP, pl_self hD0, va_S.rf⟩
  have hA0 : ∀ q, q ∈ L → AL L s.heap.size q := fun _ h => Or.inl h
  have hA : ∀ q, s.heap.size ≤ q → AL L s.heap.size q := fun _ h => Or.inr h
  have hFr : Fr kap [6] S S := Fr.rf
  have hl := lv_entry ([.ref o]) (n := 1) (Nat.le_of_ble_eq_true rfl)
  rw [lg_entry_eq]
  generalize (lg_sl ([.ref o]) ++ List.replicate (1 - (lg_sl ([.ref o])).length) Slot.unset).toArray = ls at hl ⊢
  have hl : lv_has ls 1 [(0, .ref o)] := hl
  obtain ⟨hS_o, hT_rn, hT_rb, hT_rt, hQg_, hen_, hta_, hte_⟩ := RQk hTy hT_o hQ
  obtain ⟨f_1, hS_rt⟩ := hTy.k27 hT_rt
  have eg_ := hQg_.symm.trans (af_i hS_rt)
  subst eg_
  have htkb_ := tkc_le (g := g) (n := en) (p := sp)
  have htb_ := tke_b (g := g) (n := en) (p := sp) (by omega) (by omega)
  obtain ⟨x_2, x_3, x_4, x_5, hS_rn, hT_x_2, hT_x_3, hb_x_4, hb_x_5⟩ := hTy.k3 hT_rn
  obtain ⟨hn2_, hn3_, hnp_, hnk_, hN0, hN8⟩ := hNq
  obtain rfl : np = x_4 := (nI_eq (by omega) (by omega)).mp (hn2_.symm.trans (inf_i hS_rn rfl))
  obtain rfl : nk = x_5 := (nI_eq (by omega) (by omega)).mp (hn3_.symm.trans (inf_i hS_rn rfl))
  refine lv_aload_n hx hb dX6_checkNewName_0 rfl (lv_at hl 0 rfl) ?_
  refine pl_get (ci := 6) (v := .int (nI (tkc g en sp))) (C := RX6) (T := TX6) (N := 10) hx hb hT iX6 hown hK hW hT_o.1 hS_o rfl 7 (by decide) w150 rfl dX6_checkNewName_1 ?_
  refine lv_iconst (v := 4) hx hb dX6_checkNewName_4 (by decide) ?_
  refine lv_icmp_eq (tgt := 16) hx hb dX6_checkNewName_5 (by decide) (fun c_5 => ?_) (fun c_5 => ?_)
  · have c_5 : (tkc g en sp) = 4 := (nI_eq (a := tkc g en sp) (b := 4) (by omega) (by omega)).mp c_5
    refine lv_aload_n hx hb dX6_checkNewName_16 rfl (lv_at hl 0 rfl) ?_
    refine vp_callSi (va_Run.run (va_runV (As := []) (rest := []) ⟨hx, hb, hml, hown, hT⟩ (q_partyHere l dC dI cy L kap pr S s.heap.size o hTy hT_o g fa pl rn rb rt en mt (nI (tkc g en sp)) (SK g en sp) (tke g en sp) ⟨hS_o, af_i hS_rt, by omega, by omega, by omega⟩ (by omega) df np nk ⟨inf_i hS_rn rfl, inf_i hS_rn rfl, by omega, by omega, hN0, hN8⟩) (cwV 0 hT (gV w508 w510 ws7 w3 w511) rfl rfl rfl (by decide +kernel) ⟨(Nat.le_of_ble_eq_true rfl), (Nat.le_of_ble_eq_true rfl)⟩) ⟨pcN.blind, pl_recv hK hW hT_o.1 hS_o rfl, pcN.pre hW.1 hK hW.2.1 hN (fun q h => absurd h List.not_mem_nil)⟩ rfl rfl hl.1 rfl (lv_room (Nat.le_of_ble_eq_true rfl)) dX6_checkNewName_17 ⟨(Nat.le_of_ble_eq_true rfl), (Nat.le_of_ble_eq_true rfl)⟩)) (fun r_6 hr_6 => ?_)
    rcases hr_6 with hc_ | hc_
    · obtain ⟨q1_, hFN_0⟩ := hc_
      obtain rfl : r_6 = -1 := q1_
      refine lv_iconst (v := (-1)) hx hb dX6_checkNewName_20 (by decide) ?_
      refine lv_icmp_ne (tgt := 32) hx hb dX6_checkNewName_21 (by decide) (fun h => absurd rfl h) (fun _ => ?_)
      refine lv_aload_n hx hb dX6_checkNewName_24 rfl (lv_at hl 0 rfl) ?_
      refine vp_callSi (va_Run.run (va_runV (As := []) (rest := []) ⟨hx, hb, hml, hown, hT⟩ (q_kindHere l dC dI cy L kap pr S s.heap.size o hTy hT_o g fa pl rn rb rt en mt (nI (tkc g en sp)) (SK g en sp) (tke g en sp) ⟨hS_o, af_i hS_rt, by omega, by omega, by omega⟩ (by omega) df np nk ⟨inf_i hS_rn rfl, inf_i hS_rn rfl, by omega, by omega, hN0, hN8⟩) (cwV 0 hT (gV w520 w522 ws9 w3 w523) rfl rfl rfl (by decide +kernel) ⟨(Nat.le_of_ble_eq_true rfl), (Nat.le_of_ble_eq_true rfl)⟩) ⟨pcN.blind, pl_recv hK hW hT_o.1 hS_o rfl, pcN.pre hW.1 hK hW.2.1 hN (fun q h => absurd h List.not_mem_nil)⟩ rfl rfl hl.1 rfl (lv_room (Nat.le_of_ble_eq_true rfl)) dX6_checkNewName_25 ⟨(Nat.le_of_ble_eq_true rfl), (Nat.le_of_ble_eq_true rfl)⟩)) (fun r_7 hr_7 => ?_)
      rcases hr_7 with hc_ | hc_
      · obtain ⟨q1_, hFN_8⟩ := hc_
        obtain rfl : r_7 = -1 := q1_
        refine lv_iconst (v := (-1)) hx hb dX6_checkNewName_28 (by decide) ?_
        refine lv_icmp_eq (tgt := 37) hx hb dX6_checkNewName_29 (by decide) (fun _ => ?_) (fun h => absurd rfl h)
        exact W.vret hx hb hr (fun t ht h9 => ⟨⟨S, rfl, ⟨hTy, hFr, ⟨_, _, ⟨hS_o, af_i hS_rt, by omega, by omega, by omega⟩, by rw [nnc_0 c_5 hFN_0 hFN_8]; exact ERR_0⟩⟩, by rw [ht]; exact hW.1, va_K.moved h9.alike hK, hW.2.1⟩, hW.2.2.F ht⟩) hW.2.2.2.2 dX6_checkNewName_37
      · obtain ⟨q1_, hFN_8⟩ := hc_
        obtain rfl : r_7 = nI (FN g df 8 nk (SK g en sp) (tke g en sp - SK g en sp)) := q1_
        refine lv_iconst (v := (-1)) hx hb dX6_checkNewName_28 (by decide) ?_
        refine lv_icmp_eq (tgt := 37) hx hb dX6_checkNewName_29 (by decide) (fun h => absurd h (nI_no (by omega))) (fun _ => ?_)
        refine lv_aload_n hx hb dX6_checkNewName_32 rfl (lv_at hl 0 rfl) ?_
        refine lv_iconst (v := 3) hx hb dX6_checkNewName_33 (by decide) ?_
        refine pl_callv (va_runV (As := [.int 3]) (rest := []) ⟨hx, hb, hml, hown, hT⟩ (q_fail l dC dI cy L kap pr S s.heap.size o 3 hTy hT_o g fa pl rn rb rt en mt (nI (tkc g en sp)) (SK g en sp) (tke g en sp) ⟨hS_o, af_i hS_rt, by omega, by omega, by omega⟩) (cwV 1 hT (gV w500 w502 ws5 w3 w503) rfl rfl rfl (by decide +kernel) ⟨(Nat.le_of_ble_eq_true rfl), (Nat.le_of_ble_eq_true rfl)⟩) ⟨pcN.blind, pl_recv hK hW hT_o.1 hS_o rfl, pcN.pre hW.1 hK hW.2.1 hN (fun q h => absurd h List.not_mem_nil)⟩ rfl rfl hl.1 rfl (lv_room (Nat.le_of_ble_eq_true rfl)) dX6_checkNewName_34 ⟨(Nat.le_of_ble_eq_true rfl), (Nat.le_of_ble_eq_true rfl)⟩) hW hA0 hA (fun S_8 H locs hrel hW => ?_)
        obtain ⟨hTy, hF1, hx1⟩ := hrel
        have hFr := hFr.tr hF1 (by decide)
        have hS_rt := hF1.at hT_rt (by decide) hS_rt
        have hS_rn := hF1.at hT_rn (by decide) hS_rn
        obtain ⟨fa9, pl9, hQ9, hfa9, hfb9⟩ := hx1
        obtain ⟨hS_o, hT_rn, hT_rb, hT_rt, hQg_, hen_, hta_, hte_⟩ := RQk hTy hT_o hQ9
        obtain ⟨f_10, hS_rt⟩ := hTy.k27 hT_rt
        have eg_ := hQg_.symm.trans (af_i hS_rt)
        subst eg_
        exact W.vret hx hb hr (fun t ht h9 => ⟨⟨S_8, rfl, ⟨hTy, hFr, ⟨_, _, ⟨hS_o, af_i hS_rt, by omega, by omega, by omega⟩, by rw [nnc_3 c_5 (Or.inr hFN_8)]; exact ERR_f hfa9 hfb9 (by decide)⟩⟩, by rw [ht]; exact hW.1, va_K.moved h9.alike hK, hW.2.1⟩, hW.2.2.F ht⟩) hW.2.2.2.2 dX6_checkNewName_37
    · obtain ⟨q1_, hFN_0⟩ := hc_
      obtain rfl : r_6 = nI (FN g df 0 np (SK g en sp) (tke g en sp - SK g en sp)) := q1_
      refine lv_iconst (v := (-1)) hx hb dX6_checkNewName_20 (by decide) ?_
      refine lv_icmp_ne (tgt := 32) hx hb dX6_checkNewName_21 (by decide) (fun _ => ?_) (fun h => absurd h (nI_no (by omega)))
      refine lv_aload_n hx hb dX6_checkNewName_32 rfl (lv_at hl 0 rfl) ?_
      refine lv_iconst (v := 3) hx hb dX6_checkNewName_33 (by decide) ?_
      refine pl_callv (va_runV (As := [.int 3]) (rest := []) ⟨hx, hb, hml, hown, hT⟩ (q_fail l dC dI cy L kap pr S s.heap.size o 3 hTy hT_o g fa pl rn rb rt en mt (nI (tkc g en sp)) (SK g en sp) (tke g en sp) ⟨hS_o, af_i hS_rt, by omega, by omega, by omega⟩) (cwV 1 hT (gV w500 w502 ws5 w3 w503) rfl rfl rfl (by decide +kernel) ⟨(Nat.le_of_ble_eq_true rfl), (Nat.le_of_ble_eq_true rfl)⟩) ⟨pcN.blind, pl_recv hK hW hT_o.1 hS_o rfl, pcN.pre hW.1 hK hW.2.1 hN (fun q h => absurd h List.not_mem_nil)⟩ rfl rfl hl.1 rfl (lv_room (Nat.le_of_ble_eq_true rfl)) dX6_checkNewName_34 ⟨(Nat.le_of_ble_eq_true rfl), (Nat.le_of_ble_eq_true rfl)⟩) hW hA0 hA (fun S_11 H locs hrel hW => ?_)
      obtain ⟨hTy, hF1, hx1⟩ := hrel
      have hFr := hFr.tr hF1 (by decide)
      have hS_rt := hF1.at hT_rt (by decide) hS_rt
      have hS_rn := hF1.at hT_rn (by decide) hS_rn
      obtain ⟨fa12, pl12, hQ12, hfa12, hfb12⟩ := hx1
      obtain ⟨hS_o, hT_rn, hT_rb, hT_rt, hQg_, hen_, hta_, hte_⟩ := RQk hTy hT_o hQ12
      obtain ⟨f_13, hS_rt⟩ := hTy.k27 hT_rt
      have eg_ := hQg_.symm.trans (af_i hS_rt)
      subst eg_
      exact W.vret hx hb hr (fun t ht h9 => ⟨⟨S_11, rfl, ⟨hTy, hFr, ⟨_, _, ⟨hS_o, af_i hS_rt, by omega, by omega, by omega⟩, by rw [nnc_3 c_5 (Or.inl hFN_0)]; exact ERR_f hfa12 hfb12 (by decide)⟩⟩, by rw [ht]; exact hW.1, va_K.moved h9.alike hK, hW.2.1⟩, hW.2.2.F ht⟩) hW.2.2.2.2 dX6_checkNewName_37
  · have c_5 : ¬ ((tkc g en sp) = 4) := fun hh9 => c_5 ((nI_eq (a := tkc g en sp) (b := 4) (by omega) (by omega)).mpr hh9)
    refine lv_aload_n hx hb dX6_checkNewName_8 rfl (lv_at hl 0 rfl) ?_
    refine lv_iconst (v := 1) hx hb dX6_checkNewName_9 (by decide) ?_
    refine pl_callv (va_runV (As := [.int 1]) (rest := []) ⟨hx, hb, hml, hown, hT⟩ (q_fail l dC dI cy L kap pr S s.heap.size o 1 hTy hT_o g fa pl rn rb rt en mt (nI (tkc g en sp)) (SK g en sp) (tke g en sp) ⟨hS_o, af_i hS_rt, by omega, by omega, by omega⟩) (cwV 1 hT (gV w500 w502 ws5 w3 w503) rfl rfl rfl (by decide +kernel) ⟨(Nat.le_of_ble_eq_true rfl), (Nat.le_of_ble_eq_true rfl)⟩) ⟨pcN.blind, pl_recv hK hW hT_o.1 hS_o rfl, pcN.pre hW.1 hK hW.2.1 hN (fun q h => absurd h List.not_mem_nil)⟩ rfl rfl hl.1 rfl (lv_room (Nat.le_of_ble_eq_true rfl)) dX6_checkNewName_10 ⟨(Nat.le_of_ble_eq_true rfl), (Nat.le_of_ble_eq_true rfl)⟩) hW hA0 hA (fun S_14 H locs hrel hW => ?_)
    obtain ⟨hTy, hF1, hx1⟩ := hrel
    have hFr := hFr.tr hF1 (by decide)
    have hS_rt := hF1.at hT_rt (by decide) hS_rt
    have hS_rn := hF1.at hT_rn (by decide) hS_rn
    obtain ⟨fa15, pl15, hQ15, hfa15, hfb15⟩ := hx1
    obtain ⟨hS_o, hT_rn, hT_rb, hT_rt, hQg_, hen_, hta_, hte_⟩ := RQk hTy hT_o hQ15
    obtain ⟨f_16, hS_rt⟩ := hTy.k27 hT_rt
    have eg_ := hQg_.symm.trans (af_i hS_rt)
    subst eg_
    refine lv_goto (tgt := 37) hx hb dX6_checkNewName_13 (by decide) ?_
    exact W.vret hx hb hr (fun t ht h9 => ⟨⟨S_14, rfl, ⟨hTy, hFr, ⟨_, _, ⟨hS_o, af_i hS_rt, by omega, by omega, by omega⟩, by rw [nnc_1 c_5]; exact ERR_f hfa15 hfb15 (by decide)⟩⟩, by rw [ht]; exact hW.1, va_K.moved h9.alike hK, hW.2.1⟩, hW.2.2.F ht⟩) hW.2.2.2.2 dX6_checkNewName_37

set_option maxHeartbeats 4000000 in
set_option maxRecDepth 100000 in
theorem q_knownParty (l : Launch) (dC : Nat → ClassId) (dI : Nat → Nat → Nat) (cy : Nat → ClassId) (L : List Nat) (kap : Nat → Nat) (pr : Pr) (S : Nat → va_E) (sz : Nat) (o : Nat) (hTy : Ty cy L kap pr S) (hT_o : TK L kap o 6) (g : Nat → Int32) (fa : Int32) (pl : Int32) (rn : Nat) (rb : Nat) (rt : Nat) (en : Nat) (mt : Int32) (sp : Nat) (hQ : RQ S o g fa pl rn rb rt en mt (nI (tkc g en sp)) (SK g en sp) (tke g en sp)) (hp : sp ≤ en) (df : Nat → Nat × Nat) (np : Nat) (nk : Nat) (hNq : NQ S g df rn np nk) : Met l yX6_knownParty (wT yX6_knownParty cX6_knownParty 2 (some .int)) ({ frames := 3, cells := 0, slots := 0, locals := 71 }) (pcN dC dI [.ref o] sz (va_pl L S) (cyT cy) NLs []) (va_Qi (fun r S' => Ty cy L kap pr S' ∧ Fr kap [6] S S' ∧ (∃ fa' pl', RQ S' o g fa' pl' rn rb rt en mt (nI (tkc g en sp)) (SK g en sp) (tke g en sp) ∧ ERR fa pl (ptc g en df 0 np sp) (SK g en sp) fa' pl' ∧ (ptc g en df 0 np sp = 0 → r = nI (FN g df 0 np (SK g en sp) (tke g en sp - SK g en sp))))) (fun S' t => pB dC dI (AL L sz) (va_pl L S') (cyT cy) t) (AL L sz)) 0 0 (AL L sz) := by
  refine Met.ofW (cc := cX6_knownParty) (maxL := 2) (ret := (some .int)) (by decide) rfl ?_
  intro p e s m args below meth c s₁ B hml hv
  obtain ⟨rfl, hsz, hP, hK, hD0, hN, -⟩ := hv
  have hx := B.exec
  have hb := B.bytes
  have hr := B.returns
  have hT : ∀ wd ∈ TB, wd.before [.ref o].toArray s = true := fun wd h => atoms_spec (ws := wT yX6_knownParty cX6_knownParty 2 (some .int)) B.pre wd (List.mem_cons_of_mem _ h)
  have hown : s.vm.findClass RX6 = some m.cls := findClass_of_methodNamed B.named
  have hlocks := B.notSynchronized
  subst hsz
  have hW : PW dC dI L (AL L s.heap.size) s.heap S s.heap [] := ⟨hP, pl_self hD0, va_S.rf⟩
  have hA0 : ∀ q, q ∈ L → AL L s.heap.size q := fun _ h => Or.inl h
  have hA : ∀ q, s.heap.size ≤ q → AL L s.heap.size q := fun _ h => Or.inr h
  have hFr : Fr kap [6] S S := Fr.rf
  have hl := lv_entry ([.ref o]) (n := 2) (Nat.le_of_ble_eq_true rfl)
  rw [lg_entry_eq]
  generalize (lg_sl ([.ref o]) ++ List.replicate (2 - (lg_sl ([.ref o])).length) Slot.unset).toArray = ls at hl ⊢
  have hl : lv_has ls 2 [(0, .ref o)] := hl
  obtain ⟨hS_o, hT_rn, hT_rb, hT_rt, hQg_, hen_, hta_, hte_⟩ := RQk hTy hT_o hQ
  obtain ⟨f_1, hS_rt⟩ := hTy.k27 hT_rt
  have eg_ := hQg_.symm.trans (af_i hS_rt)
  subst eg_
  have htkb_ := tkc_le (g := g) (n := en) (p := sp)
  have htb_ := tke_b (g := g) (n := en) (p := sp) (by omega) (by omega)
  obtain ⟨x_2, x_3, x_4, x_5, hS_rn, hT_x_2, hT_x_3, hb_x_4, hb_x_5⟩ := hTy.k3 hT_rn
  obtain ⟨hn2_, hn3_, hnp_, hnk_, hN0, hN8⟩ := hNq
  obtain rfl : np = x_4 := (nI_eq (by omega) (by omega)).mp (hn2_.symm.trans (inf_i hS_rn rfl))
  obtain rfl : nk = x_5 := (nI_eq (by omega) (by omega)).mp (hn3_.symm.trans (inf_i hS_rn rfl))
  refine lv_aload_n hx hb dX6_knownParty_0 rfl (lv_at hl 0 rfl) ?_
  refine pl_get (ci := 6) (v := .int (nI (tkc g en sp))) (C := RX6) (T := TX6) (N := 10) hx hb hT iX6 hown hK hW hT_o.1 hS_o rfl 7 (by decide) w150 rfl dX6_knownParty_1 ?_
  refine lv_iconst (v := 4) hx hb dX6_knownParty_4 (by decide) ?_
  refine lv_icmp_eq (tgt := 15) hx hb dX6_knownParty_5 (by decide) (fun c_5 => ?_) (fun c_5 => ?_)
  · have c_5 : (tkc g en sp) = 4 := (nI_eq (a := tkc g en sp) (b := 4) (by omega) (by omega)).mp c_5
    refine lv_aload_n hx hb dX6_knownParty_15 rfl (lv_at hl 0 rfl) ?_
    refine vp_callSi (va_Run.run (va_runV (As := []) (rest := []) ⟨hx, hb, hml, hown, hT⟩ (q_partyHere l dC dI cy L kap pr S s.heap.size o hTy hT_o g fa pl rn rb rt en mt (nI (tkc g en sp)) (SK g en sp) (tke g en sp) ⟨hS_o, af_i hS_rt, by omega, by omega, by omega⟩ (by omega) df np nk ⟨inf_i hS_rn rfl, inf_i hS_rn rfl, by omega, by omega, hN0, hN8⟩) (cwV 0 hT (gV w508 w510 ws7 w3 w511) rfl rfl rfl (by decide +kernel) ⟨(Nat.le_of_ble_eq_true rfl), (Nat.le_of_ble_eq_true rfl)⟩) ⟨pcN.blind, pl_recv hK hW hT_o.1 hS_o rfl, pcN.pre hW.1 hK hW.2.1 hN (fun q h => absurd h List.not_mem_nil)⟩ rfl rfl hl.1 rfl (lv_room (Nat.le_of_ble_eq_true rfl)) dX6_knownParty_16 ⟨(Nat.le_of_ble_eq_true rfl), (Nat.le_of_ble_eq_true rfl)⟩)) (fun r_6 hr_6 => ?_)
    rcases hr_6 with hc_ | hc_
    · obtain ⟨q1_, hFN_0⟩ := hc_
      obtain rfl : r_6 = -1 := q1_
      refine lv_istore_n (lv' := [(1, .int (-1)), (0, .ref o)]) hx hb dX6_knownParty_19 rfl hl (by decide) rfl (fun ls hl => ?_)
      refine lv_iload_n hx hb dX6_knownParty_20 rfl (lv_at hl 0 rfl) ?_
      refine lv_iconst (v := (-1)) hx hb dX6_knownParty_21 (by decide) ?_
      refine lv_icmp_ne (tgt := 30) hx hb dX6_knownParty_22 (by decide) (fun h => absurd rfl h) (fun _ => ?_)
      refine lv_aload_n hx hb dX6_knownParty_25 rfl (lv_at hl 1 rfl) ?_
      refine lv_iconst (v := 3) hx hb dX6_knownParty_26 (by decide) ?_
      refine pl_callv (va_runV (As := [.int 3]) (rest := []) ⟨hx, hb, hml, hown, hT⟩ (q_fail l dC dI cy L kap pr S s.heap.size o 3 hTy hT_o g fa pl rn rb rt en mt (nI (tkc g en sp)) (SK g en sp) (tke g en sp) ⟨hS_o, af_i hS_rt, by omega, by omega, by omega⟩) (cwV 1 hT (gV w500 w502 ws5 w3 w503) rfl rfl rfl (by decide +kernel) ⟨(Nat.le_of_ble_eq_true rfl), (Nat.le_of_ble_eq_true rfl)⟩) ⟨pcN.blind, pl_recv hK hW hT_o.1 hS_o rfl, pcN.pre hW.1 hK hW.2.1 hN (fun q h => absurd h List.not_mem_nil)⟩ rfl rfl hl.1 rfl (lv_room (Nat.le_of_ble_eq_true rfl)) dX6_knownParty_27 ⟨(Nat.le_of_ble_eq_true rfl), (Nat.le_of_ble_eq_true rfl)⟩) hW hA0 hA (fun S_7 H locs hrel hW => ?_)
      obtain ⟨hTy, hF1, hx1⟩ := hrel
      have hFr := hFr.tr hF1 (by decide)
      have hS_rt := hF1.at hT_rt (by decide) hS_rt
      have hS_rn := hF1.at hT_rn (by decide) hS_rn
      obtain ⟨fa8, pl8, hQ8, hfa8, hfb8⟩ := hx1
      obtain ⟨hS_o, hT_rn, hT_rb, hT_rt, hQg_, hen_, hta_, hte_⟩ := RQk hTy hT_o hQ8
      obtain ⟨f_9, hS_rt⟩ := hTy.k27 hT_rt
      have eg_ := hQg_.symm.trans (af_i hS_rt)
      subst eg_
      refine lv_iload_n hx hb dX6_knownParty_30 rfl (lv_at hl 0 rfl) ?_
      exact W.iret (v := (-1)) hx hb hr (fun t ht h9 => ⟨⟨(-1), S_7, rfl, ⟨hTy, hFr, ⟨_, _, ⟨hS_o, af_i hS_rt, by omega, by omega, by omega⟩, by rw [ptc_3 c_5 hFN_0]; exact ERR_f hfa8 hfb8 (by decide), fun z => absurd z (by rw [ptc_3 c_5 hFN_0]; decide)⟩⟩, by rw [ht]; exact hW.1, va_K.moved h9.alike hK, hW.2.1⟩, hW.2.2.F ht⟩) hW.2.2.2.2 dX6_knownParty_31
    · obtain ⟨q1_, hFN_0⟩ := hc_
      obtain rfl : r_6 = nI (FN g df 0 np (SK g en sp) (tke g en sp - SK g en sp)) := q1_
      refine lv_istore_n (lv' := [(1, .int (nI (FN g df 0 np (SK g en sp) (tke g en sp - SK g en sp)))), (0, .ref o)]) hx hb dX6_knownParty_19 rfl hl (by decide) rfl (fun ls hl => ?_)
      refine lv_iload_n hx hb dX6_knownParty_20 rfl (lv_at hl 0 rfl) ?_
      refine lv_iconst (v := (-1)) hx hb dX6_knownParty_21 (by decide) ?_
      refine lv_icmp_ne (tgt := 30) hx hb dX6_knownParty_22 (by decide) (fun _ => ?_) (fun h => absurd h (nI_no (by omega)))
      refine lv_iload_n hx hb dX6_knownParty_30 rfl (lv_at hl 0 rfl) ?_
      exact W.iret (v := nI (FN g df 0 np (SK g en sp) (tke g en sp - SK g en sp))) hx hb hr (fun t ht h9 => ⟨⟨nI (FN g df 0 np (SK g en sp) (tke g en sp - SK g en sp)), S, rfl, ⟨hTy, hFr, ⟨_, _, ⟨hS_o, af_i hS_rt, by omega, by omega, by omega⟩, by rw [ptc_0 c_5 hFN_0]; exact ERR_0, fun _ => rfl⟩⟩, by rw [ht]; exact hW.1, va_K.moved h9.alike hK, hW.2.1⟩, hW.2.2.F ht⟩) hW.2.2.2.2 dX6_knownParty_31
  · have c_5 : ¬ ((tkc g en sp) = 4) := fun hh9 => c_5 ((nI_eq (a := tkc g en sp) (b := 4) (by omega) (by omega)).mpr hh9)
    refine lv_aload_n hx hb dX6_knownParty_8 rfl (lv_at hl 0 rfl) ?_
    refine lv_iconst (v := 1) hx hb dX6_knownParty_9 (by decide) ?_
    refine pl_callv (va_runV (As := [.int 1]) (rest := []) ⟨hx, hb, hml, hown, hT⟩ (q_fail l dC dI cy L kap pr S s.heap.size o 1 hTy hT_o g fa pl rn rb rt en mt (nI (tkc g en sp)) (SK g en sp) (tke g en sp) ⟨hS_o, af_i hS_rt, by omega, by omega, by omega⟩) (cwV 1 hT (gV w500 w502 ws5 w3 w503) rfl rfl rfl (by decide +kernel) ⟨(Nat.le_of_ble_eq_true rfl), (Nat.le_of_ble_eq_true rfl)⟩) ⟨pcN.blind, pl_recv hK hW hT_o.1 hS_o rfl, pcN.pre hW.1 hK hW.2.1 hN (fun q h => absurd h List.not_mem_nil)⟩ rfl rfl hl.1 rfl (lv_room (Nat.le_of_ble_eq_true rfl)) dX6_knownParty_10 ⟨(Nat.le_of_ble_eq_true rfl), (Nat.le_of_ble_eq_true rfl)⟩) hW hA0 hA (fun S_10 H locs hrel hW => ?_)
    obtain ⟨hTy, hF1, hx1⟩ := hrel
    have hFr := hFr.tr hF1 (by decide)
    have hS_rt := hF1.at hT_rt (by decide) hS_rt
    have hS_rn := hF1.at hT_rn (by decide) hS_rn
    obtain ⟨fa11, pl11, hQ11, hfa11, hfb11⟩ := hx1
    obtain ⟨hS_o, hT_rn, hT_rb, hT_rt, hQg_, hen_, hta_, hte_⟩ := RQk hTy hT_o hQ11
    obtain ⟨f_12, hS_rt⟩ := hTy.k27 hT_rt
    have eg_ := hQg_.symm.trans (af_i hS_rt)
    subst eg_
    refine lv_iconst (v := (-1)) hx hb dX6_knownParty_13 (by decide) ?_
    exact W.iret (v := (-1)) hx hb hr (fun t ht h9 => ⟨⟨(-1), S_10, rfl, ⟨hTy, hFr, ⟨_, _, ⟨hS_o, af_i hS_rt, by omega, by omega, by omega⟩, by rw [ptc_1 c_5]; exact ERR_f hfa11 hfb11 (by decide), fun z => absurd z (by rw [ptc_1 c_5]; decide)⟩⟩, by rw [ht]; exact hW.1, va_K.moved h9.alike hK, hW.2.1⟩, hW.2.2.F ht⟩) hW.2.2.2.2 dX6_knownParty_14

set_option maxHeartbeats 4000000 in
set_option maxRecDepth 100000 in
theorem q_knownKind (l : Launch) (dC : Nat → ClassId) (dI : Nat → Nat → Nat) (cy : Nat → ClassId) (L : List Nat) (kap : Nat → Nat) (pr : Pr) (S : Nat → va_E) (sz : Nat) (o : Nat) (hTy : Ty cy L kap pr S) (hT_o : TK L kap o 6) (g : Nat → Int32) (fa : Int32) (pl : Int32) (rn : Nat) (rb : Nat) (rt : Nat) (en : Nat) (mt : Int32) (sp : Nat) (hQ : RQ S o g fa pl rn rb rt en mt (nI (tkc g en sp)) (SK g en sp) (tke g en sp)) (hp : sp ≤ en) (df : Nat → Nat × Nat) (np : Nat) (nk : Nat) (hNq : NQ S g df rn np nk) : Met l yX6_knownKind (wT yX6_knownKind cX6_knownKind 2 (some .int)) ({ frames := 3, cells := 0, slots := 0, locals := 71 }) (pcN dC dI [.ref o] sz (va_pl L S) (cyT cy) NLs []) (va_Qi (fun r S' => Ty cy L kap pr S' ∧ Fr kap [6] S S' ∧ (∃ fa' pl', RQ S' o g fa' pl' rn rb rt en mt (nI (tkc g en sp)) (SK g en sp) (tke g en sp) ∧ ERR fa pl (ptc g en df 8 nk sp) (SK g en sp) fa' pl' ∧ (ptc g en df 8 nk sp = 0 → r = nI (FN g df 8 nk (SK g en sp) (tke g en sp - SK g en sp))))) (fun S' t => pB dC dI (AL L sz) (va_pl L S') (cyT cy) t) (AL L sz)) 0 0 (AL L sz) := by
  refine Met.ofW (cc := cX6_knownKind) (maxL := 2) (ret := (some .int)) (by decide) rfl ?_
  intro p e s m args below meth c s₁ B hml hv
  obtain ⟨rfl, hsz, hP, hK, hD0, hN, -⟩ := hv
  have hx := B.exec
  have hb := B.bytes
  have hr := B.returns
  have hT : ∀ wd ∈ TB, wd.before [.ref o].toArray s = true := fun wd h => atoms_spec (ws := wT yX6_knownKind cX6_knownKind 2 (some .int)) B.pre wd (List.mem_cons_of_mem _ h)
  have hown : s.vm.findClass RX6 = some m.cls := findClass_of_methodNamed B.named
  have hlocks := B.notSynchronized
  subst hsz
  have hW : PW dC dI L (AL L s.heap.size) s.heap S s.heap [] := ⟨hP, pl_self hD0, va_S.rf⟩
  have hA0 : ∀ q, q ∈ L → AL L s.heap.size q := fun _ h => Or.inl h
  have hA : ∀ q, s.heap.size ≤ q → AL L s.heap.size q := fun _ h => Or.inr h
  have hFr : Fr kap [6] S S := Fr.rf
  have hl := lv_entry ([.ref o]) (n := 2) (Nat.le_of_ble_eq_true rfl)
  rw [lg_entry_eq]
  generalize (lg_sl ([.ref o]) ++ List.replicate (2 - (lg_sl ([.ref o])).length) Slot.unset).toArray = ls at hl ⊢
  have hl : lv_has ls 2 [(0, .ref o)] := hl
  obtain ⟨hS_o, hT_rn, hT_rb, hT_rt, hQg_, hen_, hta_, hte_⟩ := RQk hTy hT_o hQ
  obtain ⟨f_1, hS_rt⟩ := hTy.k27 hT_rt
  have eg_ := hQg_.symm.trans (af_i hS_rt)
  subst eg_
  have htkb_ := tkc_le (g := g) (n := en) (p := sp)
  have htb_ := tke_b (g := g) (n := en) (p := sp) (by omega) (by omega)
  obtain ⟨x_2, x_3, x_4, x_5, hS_rn, hT_x_2, hT_x_3, hb_x_4, hb_x_5⟩ := hTy.k3 hT_rn
  obtain ⟨hn2_, hn3_, hnp_, hnk_, hN0, hN8⟩ := hNq
  obtain rfl : np = x_4 := (nI_eq (by omega) (by omega)).mp (hn2_.symm.trans (inf_i hS_rn rfl))
  obtain rfl : nk = x_5 := (nI_eq (by omega) (by omega)).mp (hn3_.symm.trans (inf_i hS_rn rfl))
  refine lv_aload_n hx hb dX6_knownKind_0 rfl (lv_at hl 0 rfl) ?_
  refine pl_get (ci := 6) (v := .int (nI (tkc g en sp))) (C := RX6) (T := TX6) (N := 10) hx hb hT iX6 hown hK hW hT_o.1 hS_o rfl 7 (by decide) w150 rfl dX6_knownKind_1 ?_
  refine lv_iconst (v := 4) hx hb dX6_knownKind_4 (by decide) ?_
  refine lv_icmp_eq (tgt := 15) hx hb dX6_knownKind_5 (by decide) (fun c_5 => ?_) (fun c_5 => ?_)
  · have c_5 : (tkc g en sp) = 4 := (nI_eq (a := tkc g en sp) (b := 4) (by omega) (by omega)).mp c_5
    refine lv_aload_n hx hb dX6_knownKind_15 rfl (lv_at hl 0 rfl) ?_
    refine vp_callSi (va_Run.run (va_runV (As := []) (rest := []) ⟨hx, hb, hml, hown, hT⟩ (q_kindHere l dC dI cy L kap pr S s.heap.size o hTy hT_o g fa pl rn rb rt en mt (nI (tkc g en sp)) (SK g en sp) (tke g en sp) ⟨hS_o, af_i hS_rt, by omega, by omega, by omega⟩ (by omega) df np nk ⟨inf_i hS_rn rfl, inf_i hS_rn rfl, by omega, by omega, hN0, hN8⟩) (cwV 0 hT (gV w520 w522 ws9 w3 w523) rfl rfl rfl (by decide +kernel) ⟨(Nat.le_of_ble_eq_true rfl), (Nat.le_of_ble_eq_true rfl)⟩) ⟨pcN.blind, pl_recv hK hW hT_o.1 hS_o rfl, pcN.pre hW.1 hK hW.2.1 hN (fun q h => absurd h List.not_mem_nil)⟩ rfl rfl hl.1 rfl (lv_room (Nat.le_of_ble_eq_true rfl)) dX6_knownKind_16 ⟨(Nat.le_of_ble_eq_true rfl), (Nat.le_of_ble_eq_true rfl)⟩)) (fun r_6 hr_6 => ?_)
    rcases hr_6 with hc_ | hc_
    · obtain ⟨q1_, hFN_8⟩ := hc_
      obtain rfl : r_6 = -1 := q1_
      refine lv_istore_n (lv' := [(1, .int (-1)), (0, .ref o)]) hx hb dX6_knownKind_19 rfl hl (by decide) rfl (fun ls hl => ?_)
      refine lv_iload_n hx hb dX6_knownKind_20 rfl (lv_at hl 0 rfl) ?_
      refine lv_iconst (v := (-1)) hx hb dX6_knownKind_21 (by decide) ?_
      refine lv_icmp_ne (tgt := 30) hx hb dX6_knownKind_22 (by decide) (fun h => absurd rfl h) (fun _ => ?_)
      refine lv_aload_n hx hb dX6_knownKind_25 rfl (lv_at hl 1 rfl) ?_
      refine lv_iconst (v := 3) hx hb dX6_knownKind_26 (by decide) ?_
      refine pl_callv (va_runV (As := [.int 3]) (rest := []) ⟨hx, hb, hml, hown, hT⟩ (q_fail l dC dI cy L kap pr S s.heap.size o 3 hTy hT_o g fa pl rn rb rt en mt (nI (tkc g en sp)) (SK g en sp) (tke g en sp) ⟨hS_o, af_i hS_rt, by omega, by omega, by omega⟩) (cwV 1 hT (gV w500 w502 ws5 w3 w503) rfl rfl rfl (by decide +kernel) ⟨(Nat.le_of_ble_eq_true rfl), (Nat.le_of_ble_eq_true rfl)⟩) ⟨pcN.blind, pl_recv hK hW hT_o.1 hS_o rfl, pcN.pre hW.1 hK hW.2.1 hN (fun q h => absurd h List.not_mem_nil)⟩ rfl rfl hl.1 rfl (lv_room (Nat.le_of_ble_eq_true rfl)) dX6_knownKind_27 ⟨(Nat.le_of_ble_eq_true rfl), (Nat.le_of_ble_eq_true rfl)⟩) hW hA0 hA (fun S_7 H locs hrel hW => ?_)
      obtain ⟨hTy, hF1, hx1⟩ := hrel
      have hFr := hFr.tr hF1 (by decide)
      have hS_rt := hF1.at hT_rt (by decide) hS_rt
      have hS_rn := hF1.at hT_rn (by decide) hS_rn
      obtain ⟨fa8, pl8, hQ8, hfa8, hfb8⟩ := hx1
      obtain ⟨hS_o, hT_rn, hT_rb, hT_rt, hQg_, hen_, hta_, hte_⟩ := RQk hTy hT_o hQ8
      obtain ⟨f_9, hS_rt⟩ := hTy.k27 hT_rt
      have eg_ := hQg_.symm.trans (af_i hS_rt)
      subst eg_
      refine lv_iload_n hx hb dX6_knownKind_30 rfl (lv_at hl 0 rfl) ?_
      exact W.iret (v := (-1)) hx hb hr (fun t ht h9 => ⟨⟨(-1), S_7, rfl, ⟨hTy, hFr, ⟨_, _, ⟨hS_o, af_i hS_rt, by omega, by omega, by omega⟩, by rw [ptc_3 c_5 hFN_8]; exact ERR_f hfa8 hfb8 (by decide), fun z => absurd z (by rw [ptc_3 c_5 hFN_8]; decide)⟩⟩, by rw [ht]; exact hW.1, va_K.moved h9.alike hK, hW.2.1⟩, hW.2.2.F ht⟩) hW.2.2.2.2 dX6_knownKind_31
    · obtain ⟨q1_, hFN_8⟩ := hc_
      obtain rfl : r_6 = nI (FN g df 8 nk (SK g en sp) (tke g en sp - SK g en sp)) := q1_
      refine lv_istore_n (lv' := [(1, .int (nI (FN g df 8 nk (SK g en sp) (tke g en sp - SK g en sp)))), (0, .ref o)]) hx hb dX6_knownKind_19 rfl hl (by decide) rfl (fun ls hl => ?_)
      refine lv_iload_n hx hb dX6_knownKind_20 rfl (lv_at hl 0 rfl) ?_
      refine lv_iconst (v := (-1)) hx hb dX6_knownKind_21 (by decide) ?_
      refine lv_icmp_ne (tgt := 30) hx hb dX6_knownKind_22 (by decide) (fun _ => ?_) (fun h => absurd h (nI_no (by omega)))
      refine lv_iload_n hx hb dX6_knownKind_30 rfl (lv_at hl 0 rfl) ?_
      exact W.iret (v := nI (FN g df 8 nk (SK g en sp) (tke g en sp - SK g en sp))) hx hb hr (fun t ht h9 => ⟨⟨nI (FN g df 8 nk (SK g en sp) (tke g en sp - SK g en sp)), S, rfl, ⟨hTy, hFr, ⟨_, _, ⟨hS_o, af_i hS_rt, by omega, by omega, by omega⟩, by rw [ptc_0 c_5 hFN_8]; exact ERR_0, fun _ => rfl⟩⟩, by rw [ht]; exact hW.1, va_K.moved h9.alike hK, hW.2.1⟩, hW.2.2.F ht⟩) hW.2.2.2.2 dX6_knownKind_31
  · have c_5 : ¬ ((tkc g en sp) = 4) := fun hh9 => c_5 ((nI_eq (a := tkc g en sp) (b := 4) (by omega) (by omega)).mpr hh9)
    refine lv_aload_n hx hb dX6_knownKind_8 rfl (lv_at hl 0 rfl) ?_
    refine lv_iconst (v := 1) hx hb dX6_knownKind_9 (by decide) ?_
    refine pl_callv (va_runV (As := [.int 1]) (rest := []) ⟨hx, hb, hml, hown, hT⟩ (q_fail l dC dI cy L kap pr S s.heap.size o 1 hTy hT_o g fa pl rn rb rt en mt (nI (tkc g en sp)) (SK g en sp) (tke g en sp) ⟨hS_o, af_i hS_rt, by omega, by omega, by omega⟩) (cwV 1 hT (gV w500 w502 ws5 w3 w503) rfl rfl rfl (by decide +kernel) ⟨(Nat.le_of_ble_eq_true rfl), (Nat.le_of_ble_eq_true rfl)⟩) ⟨pcN.blind, pl_recv hK hW hT_o.1 hS_o rfl, pcN.pre hW.1 hK hW.2.1 hN (fun q h => absurd h List.not_mem_nil)⟩ rfl rfl hl.1 rfl (lv_room (Nat.le_of_ble_eq_true rfl)) dX6_knownKind_10 ⟨(Nat.le_of_ble_eq_true rfl), (Nat.le_of_ble_eq_true rfl)⟩) hW hA0 hA (fun S_10 H locs hrel hW => ?_)
    obtain ⟨hTy, hF1, hx1⟩ := hrel
    have hFr := hFr.tr hF1 (by decide)
    have hS_rt := hF1.at hT_rt (by decide) hS_rt
    have hS_rn := hF1.at hT_rn (by decide) hS_rn
    obtain ⟨fa11, pl11, hQ11, hfa11, hfb11⟩ := hx1
    obtain ⟨hS_o, hT_rn, hT_rb, hT_rt, hQg_, hen_, hta_, hte_⟩ := RQk hTy hT_o hQ11
    obtain ⟨f_12, hS_rt⟩ := hTy.k27 hT_rt
    have eg_ := hQg_.symm.trans (af_i hS_rt)
    subst eg_
    refine lv_iconst (v := (-1)) hx hb dX6_knownKind_13 (by decide) ?_
    exact W.iret (v := (-1)) hx hb hr (fun t ht h9 => ⟨⟨(-1), S_10, rfl, ⟨hTy, hFr, ⟨_, _, ⟨hS_o, af_i hS_rt, by omega, by omega, by omega⟩, by rw [ptc_1 c_5]; exact ERR_f hfa11 hfb11 (by decide), fun z => absurd z (by rw [ptc_1 c_5]; decide)⟩⟩, by rw [ht]; exact hW.1, va_K.moved h9.alike hK, hW.2.1⟩, hW.2.2.F ht⟩) hW.2.2.2.2 dX6_knownKind_14

set_option maxHeartbeats 4000000 in
set_option maxRecDepth 100000 in
theorem q_failIfSame (l : Launch) (dC : Nat → ClassId) (dI : Nat → Nat → Nat) (cy : Nat → ClassId) (L : List Nat) (kap : Nat → Nat) (pr : Pr) (S : Nat → va_E) (sz : Nat) (o : Nat) (gi : Int32) (ti : Int32) (hTy : Ty cy L kap pr S) (hT_o : TK L kap o 6) (g : Nat → Int32) (fa : Int32) (pl : Int32) (rn : Nat) (rb : Nat) (rt : Nat) (en : Nat) (mt : Int32) (tk : Int32) (ta : Nat) (te : Nat) (hQ : RQ S o g fa pl rn rb rt en mt tk ta te) : Met l yX6_failIfSame (wT yX6_failIfSame cX6_failIfSame 3 none) ({ frames := 1, cells := 0, slots := 0, locals := 21 }) (pcN dC dI [.ref o, .int gi, .int ti] sz (va_pl L S) (cyT cy) NLs []) (va_Qv (fun S' => Ty cy L kap pr S' ∧ Fr kap [6] S S' ∧ (∃ fa' pl', RQ S' o g fa' pl' rn rb rt en mt tk ta te ∧ ERR fa pl (if gi = ti then 5 else 0) ta fa' pl')) (fun S' t => pB dC dI (AL L sz) (va_pl L S') (cyT cy) t) (AL L sz)) 0 0 (AL L sz) := by
  refine Met.ofW (cc := cX6_failIfSame) (maxL := 3) (ret := none) (by decide) rfl ?_
  intro p e s m args below meth c s₁ B hml hv
  obtain ⟨rfl, hsz, hP, hK, hD0, hN, -⟩ := hv
  have hx := B.exec
  have hb := B.bytes
  have hr := B.returns
  have hT : ∀ wd ∈ TB, wd.before [.ref o, .int gi, .int ti].toArray s = true := fun wd h => atoms_spec (ws := wT yX6_failIfSame cX6_failIfSame 3 none) B.pre wd (List.mem_cons_of_mem _ h)
  have hown : s.vm.findClass RX6 = some m.cls := findClass_of_methodNamed B.named
  have hlocks := B.notSynchronized
  subst hsz
  have hW : PW dC dI L (AL L s.heap.size) s.heap S s.heap [] := ⟨hP, pl_self hD0, va_S.rf⟩
  have hA0 : ∀ q, q ∈ L → AL L s.heap.size q := fun _ h => Or.inl h
  have hA : ∀ q, s.heap.size ≤ q → AL L s.heap.size q := fun _ h => Or.inr h
  have hFr : Fr kap [6] S S := Fr.rf
  have hl := lv_entry ([.ref o, .int gi, .int ti]) (n := 3) (Nat.le_of_ble_eq_true rfl)
  rw [lg_entry_eq]
  generalize (lg_sl ([.ref o, .int gi, .int ti]) ++ List.replicate (3 - (lg_sl ([.ref o, .int gi, .int ti])).length) Slot.unset).toArray = ls at hl ⊢
  have hl : lv_has ls 3 [(0, .ref o), (1, .int gi), (2, .int ti)] := hl
  obtain ⟨hS_o, hT_rn, hT_rb, hT_rt, hQg_, hen_, hta_, hte_⟩ := RQk hTy hT_o hQ
  obtain ⟨f_1, hS_rt⟩ := hTy.k27 hT_rt
  have eg_ := hQg_.symm.trans (af_i hS_rt)
  subst eg_
  refine lv_iload_n hx hb dX6_failIfSame_0 rfl (lv_at hl 1 rfl) ?_
  refine lv_iload_n hx hb dX6_failIfSame_1 rfl (lv_at hl 2 rfl) ?_
  refine lv_icmp_ne (tgt := 10) hx hb dX6_failIfSame_2 (by decide) (fun c_2 => ?_) (fun c_2 => ?_)
  · exact W.vret hx hb hr (fun t ht h9 => ⟨⟨S, rfl, ⟨hTy, hFr, ⟨_, _, ⟨hS_o, af_i hS_rt, by omega, by omega, by omega⟩, by rw [if_neg c_2]; exact ERR_0⟩⟩, by rw [ht]; exact hW.1, va_K.moved h9.alike hK, hW.2.1⟩, hW.2.2.F ht⟩) hW.2.2.2.2 dX6_failIfSame_10
  · refine lv_aload_n hx hb dX6_failIfSame_5 rfl (lv_at hl 0 rfl) ?_
    refine lv_iconst (v := 5) hx hb dX6_failIfSame_6 (by decide) ?_
    refine pl_callv (va_runV (As := [.int 5]) (rest := []) ⟨hx, hb, hml, hown, hT⟩ (q_fail l dC dI cy L kap pr S s.heap.size o 5 hTy hT_o g fa pl rn rb rt en mt tk ta te ⟨hS_o, af_i hS_rt, by omega, by omega, by omega⟩) (cwV 1 hT (gV w500 w502 ws5 w3 w503) rfl rfl rfl (by decide +kernel) ⟨(Nat.le_of_ble_eq_true rfl), (Nat.le_of_ble_eq_true rfl)⟩) ⟨pcN.blind, pl_recv hK hW hT_o.1 hS_o rfl, pcN.pre hW.1 hK hW.2.1 hN (fun q h => absurd h List.not_mem_nil)⟩ rfl rfl hl.1 rfl (lv_room (Nat.le_of_ble_eq_true rfl)) dX6_failIfSame_7 ⟨(Nat.le_of_ble_eq_true rfl), (Nat.le_of_ble_eq_true rfl)⟩) hW hA0 hA (fun S_2 H locs hrel hW => ?_)
    obtain ⟨hTy, hF1, hx1⟩ := hrel
    have hFr := hFr.tr hF1 (by decide)
    have hS_rt := hF1.at hT_rt (by decide) hS_rt
    obtain ⟨fa3, pl3, hQ3, hfa3, hfb3⟩ := hx1
    obtain ⟨hS_o, hT_rn, hT_rb, hT_rt, hQg_, hen_, hta_, hte_⟩ := RQk hTy hT_o hQ3
    obtain ⟨f_4, hS_rt⟩ := hTy.k27 hT_rt
    have eg_ := hQg_.symm.trans (af_i hS_rt)
    subst eg_
    exact W.vret hx hb hr (fun t ht h9 => ⟨⟨S_2, rfl, ⟨hTy, hFr, ⟨_, _, ⟨hS_o, af_i hS_rt, by omega, by omega, by omega⟩, by rw [if_pos c_2]; exact ERR_f hfa3 hfb3 (by decide)⟩⟩, by rw [ht]; exact hW.1, va_K.moved h9.alike hK, hW.2.1⟩, hW.2.2.F ht⟩) hW.2.2.2.2 dX6_failIfSame_10

set_option maxHeartbeats 4000000 in
set_option maxRecDepth 100000 in
theorem q_numberWithin (l : Launch) (dC : Nat → ClassId) (dI : Nat → Nat → Nat) (cy : Nat → ClassId) (L : List Nat) (kap : Nat → Nat) (pr : Pr) (S : Nat → va_E) (sz : Nat) (o : Nat) (lo : Int32) (hi : Int32) (hTy : Ty cy L kap pr S) (hT_o : TK L kap o 6) (g : Nat → Int32) (fa : Int32) (pl : Int32) (rn : Nat) (rb : Nat) (rt : Nat) (en : Nat) (mt : Int32) (sp : Nat) (hQ : RQ S o g fa pl rn rb rt en mt (nI (tkc g en sp)) (SK g en sp) (tke g en sp)) (hp : sp ≤ en) : Met l yX6_numberWithin (wT yX6_numberWithin cX6_numberWithin 5 (some .int)) ({ frames := 1, cells := 0, slots := 0, locals := 21 }) (pcN dC dI [.ref o, .int lo, .int hi] sz (va_pl L S) (cyT cy) NLs []) (va_Qi (fun r S' => Ty cy L kap pr S' ∧ Fr kap [6] S S' ∧ (∃ fa' pl', RQ S' o g fa' pl' rn rb rt en mt (nI (tkc g en sp)) (SK g en sp) (tke g en sp) ∧ ERR fa pl (nbc g en sp lo hi) (SK g en sp) fa' pl' ∧ (nbc g en sp lo hi = 0 → r = nI (NV g (SK g en sp) (tke g en sp - SK g en sp))))) (fun S' t => pB dC dI (AL L sz) (va_pl L S') (cyT cy) t) (AL L sz)) 0 0 (AL L sz) := by
  refine Met.ofW (cc := cX6_numberWithin) (maxL := 5) (ret := (some .int)) (by decide) rfl ?_
  intro p e s m args below meth c s₁ B hml hv
  obtain ⟨rfl, hsz, hP, hK, hD0, hN, -⟩ := hv
  have hx := B.exec
  have hb := B.bytes
  have hr := B.returns
  have hT : ∀ wd ∈ TB, wd.before [.ref o, .int lo, .int hi].toArray s = true := fun wd h => atoms_spec (ws := wT yX6_numberWithin cX6_numberWithin 5 (some .int)) B.pre wd (List.mem_cons_of_mem _ h)
  have hown : s.vm.findClass RX6 = some m.cls := findClass_of_methodNamed B.named
  have hlocks := B.notSynchronized
  subst hsz
  have hW : PW dC dI L (AL L s.heap.size) s.heap S s.heap [] := ⟨hP, pl_self hD0, va_S.rf⟩
  have hA0 : ∀ q, q ∈ L → AL L s.heap.size q := fun _ h => Or.inl h
  have hA : ∀ q, s.heap.size ≤ q → AL L s.heap.size q := fun _ h => Or.inr h
  have hFr : Fr kap [6] S S := Fr.rf
  have hl := lv_entry ([.ref o, .int lo, .int hi]) (n := 5) (Nat.le_of_ble_eq_true rfl)
  rw [lg_entry_eq]
  generalize (lg_sl ([.ref o, .int lo, .int hi]) ++ List.replicate (5 - (lg_sl ([.ref o, .int lo, .int hi])).length) Slot.unset).toArray = ls at hl ⊢
  have hl : lv_has ls 5 [(0, .ref o), (1, .int lo), (2, .int hi)] := hl
  obtain ⟨hS_o, hT_rn, hT_rb, hT_rt, hQg_, hen_, hta_, hte_⟩ := RQk hTy hT_o hQ
  obtain ⟨f_1, hS_rt⟩ := hTy.k27 hT_rt
  have eg_ := hQg_.symm.trans (af_i hS_rt)
  subst eg_
  have htkb_ := tkc_le (g := g) (n := en) (p := sp)
  have htb_ := tke_b (g := g) (n := en) (p := sp) (by omega) (by omega)
  refine lv_aload_n hx hb dX6_numberWithin_0 rfl (lv_at hl 0 rfl) ?_
  refine pl_get (ci := 6) (v := .int (nI (tkc g en sp))) (C := RX6) (T := TX6) (N := 10) hx hb hT iX6 hown hK hW hT_o.1 hS_o rfl 7 (by decide) w150 rfl dX6_numberWithin_1 ?_
  refine lv_iconst (v := 3) hx hb dX6_numberWithin_4 (by decide) ?_
  refine lv_icmp_eq (tgt := 15) hx hb dX6_numberWithin_5 (by decide) (fun c_5 => ?_) (fun c_5 => ?_)
  · have c_5 : (tkc g en sp) = 3 := (nI_eq (a := tkc g en sp) (b := 3) (by omega) (by omega)).mp c_5
    refine lv_aload_n hx hb dX6_numberWithin_15 rfl (lv_at hl 0 rfl) ?_
    refine pl_get (ci := 6) (v := .int (nI (tke g en sp))) (C := RX6) (T := TX6) (N := 10) hx hb hT iX6 hown hK hW hT_o.1 hS_o rfl 9 (by decide) w152 rfl dX6_numberWithin_16 ?_
    refine lv_aload_n hx hb dX6_numberWithin_19 rfl (lv_at hl 0 rfl) ?_
    refine pl_get (ci := 6) (v := .int (nI (SK g en sp))) (C := RX6) (T := TX6) (N := 10) hx hb hT iX6 hown hK hW hT_o.1 hS_o rfl 8 (by decide) w151 rfl dX6_numberWithin_20 ?_
    refine lv_isub hx hb dX6_numberWithin_23 ?_
    refine lv_topi (fun z_2 ez_2 => ?_)
    obtain rfl : z_2 = nI ((tke g en sp) - (SK g en sp)) := ez_2.trans (pk_sub (a := tke g en sp) (b := SK g en sp) (by omega))
    refine lv_bipush (v := 8) hx hb dX6_numberWithin_24 (by decide) ?_
    refine lv_icmp_le (tgt := 36) hx hb dX6_numberWithin_26 (by decide) (fun c_26 => ?_) (fun c_26 => ?_)
    · have c_26 : ((tke g en sp) - (SK g en sp)) ≤ 8 := (nI_leI (a := (tke g en sp) - (SK g en sp)) (b := 8) (by omega) (by omega)).mp c_26
      refine lv_iconst (v := 0) hx hb dX6_numberWithin_36 (by decide) ?_
      refine lv_istore_n (lv' := [(3, .int 0), (0, .ref o), (1, .int lo), (2, .int hi)]) hx hb dX6_numberWithin_37 rfl hl (by decide) rfl (fun ls hl => ?_)
      refine lv_aload_n hx hb dX6_numberWithin_38 rfl (lv_at hl 1 rfl) ?_
      refine pl_get (ci := 6) (v := .int (nI (SK g en sp))) (C := RX6) (T := TX6) (N := 10) hx hb hT iX6 hown hK hW hT_o.1 hS_o rfl 8 (by decide) w151 rfl dX6_numberWithin_39 ?_
      refine lv_istore (lv' := [(4, .int (nI (SK g en sp))), (3, .int 0), (0, .ref o), (1, .int lo), (2, .int hi)]) hx hb dX6_numberWithin_42 hl (by decide) rfl (fun ls hl => ?_)
      have hdt9 := tk3_d (g := g) (n := en) (p := sp) c_5
      have loop : ∀ (fuel : Nat) (i : Nat) (vl : Int32) (SS : Nat → va_E) (H : Heap) (locs : List Loc) (ls : Array Slot), 901 - i < fuel → (i ≤ 900) → (SK g en sp ≤ i) → (i ≤ tke g en sp) → (vl = nI (NV g (SK g en sp) (i - SK g en sp))) → Ty cy L kap pr SS → Fr kap [6] S SS → Fr kap [] S SS → PW dC dI L (AL L s.heap.size) s.heap SS H locs → lv_has ls 5 [(4, .int (nI i)), (3, .int vl), (0, .ref o), (1, .int lo), (2, .int hi)] → W p l e (headSpec (wT yX6_numberWithin cX6_numberWithin 5 (some .int)) { frames := 1, cells := 0, slots := 0, locals := 21 }).room s m [.ref o, .int lo, .int hi].toArray below meth c H locs 0 0 (MQ below (va_Qi (fun r S' => Ty cy L kap pr S' ∧ Fr kap [6] S S' ∧ (∃ fa' pl', RQ S' o g fa' pl' rn rb rt en mt (nI (tkc g en sp)) (SK g en sp) (tke g en sp) ∧ ERR fa pl (nbc g en sp lo hi) (SK g en sp) fa' pl' ∧ (nbc g en sp lo hi = 0 → r = nI (NV g (SK g en sp) (tke g en sp - SK g en sp))))) (fun S' t => pB dC dI (AL L s.heap.size) (va_pl L S') (cyT cy) t) (AL L s.heap.size)) [.ref o, .int lo, .int hi].toArray s 0 0 (AL L s.heap.size)) (F0 m 44 ls []) := by
        intro fuel
        induction fuel with
        | zero => intro i vl SS H locs ls h; exact absurd h (Nat.not_lt_zero _)
        | succ fu44 ih44 =>
          intro i vl S_3 H locs ls hm44 hb_i hia hib hvl hTy hFr hFl44 hW hl
          have hS_o := hFl44.at hT_o (by decide) hS_o
          have hS_rt := hFl44.at hT_rt (by decide) hS_rt
          refine lv_iload hx hb dX6_numberWithin_44 (lv_at hl 0 rfl) ?_
          refine lv_aload_n hx hb dX6_numberWithin_46 rfl (lv_at hl 2 rfl) ?_
          refine pl_get (ci := 6) (v := .int (nI (tke g en sp))) (C := RX6) (T := TX6) (N := 10) hx hb hT iX6 hown hK hW hT_o.1 hS_o rfl 9 (by decide) w152 rfl dX6_numberWithin_47 ?_
          refine lv_icmp_ge (tgt := 75) hx hb dX6_numberWithin_50 (by decide) (fun c_50 => ?_) (fun c_50 => ?_)
          · have c_50 : (tke g en sp) ≤ i := (nI_leI (a := tke g en sp) (b := i) (by omega) (by omega)).mp c_50
            have hv9 : vl = nI (NV g (SK g en sp) (tke g en sp - SK g en sp)) := by rw [hvl, show i = tke g en sp from by omega]
            refine lv_iload_n hx hb dX6_numberWithin_75 rfl (lv_at hl 1 rfl) ?_
            refine lv_iload_n hx hb dX6_numberWithin_76 rfl (lv_at hl 3 rfl) ?_
            refine lv_icmp_lt (tgt := 85) hx hb dX6_numberWithin_77 (by decide) (fun c_77 => ?_) (fun c_77 => ?_)
            · refine lv_aload_n hx hb dX6_numberWithin_85 rfl (lv_at hl 2 rfl) ?_
              refine lv_iconst (v := 2) hx hb dX6_numberWithin_86 (by decide) ?_
              refine pl_callv (va_runV (As := [.int 2]) (rest := []) ⟨hx, hb, hml, hown, hT⟩ (q_fail l dC dI cy L kap pr S_3 H.size o 2 hTy hT_o g fa pl rn rb rt en mt (nI (tkc g en sp)) (SK g en sp) (tke g en sp) ⟨hS_o, af_i hS_rt, by omega, by omega, by omega⟩) (cwV 1 hT (gV w500 w502 ws5 w3 w503) rfl rfl rfl (by decide +kernel) ⟨(Nat.le_of_ble_eq_true rfl), (Nat.le_of_ble_eq_true rfl)⟩) ⟨pcN.blind, pl_recv hK hW hT_o.1 hS_o rfl, pcN.pre hW.1 hK hW.2.1 hN (fun q h => absurd h List.not_mem_nil)⟩ rfl rfl hl.1 rfl (lv_room (Nat.le_of_ble_eq_true rfl)) dX6_numberWithin_87 ⟨(Nat.le_of_ble_eq_true rfl), (Nat.le_of_ble_eq_true rfl)⟩) hW hA0 hA (fun S_4 H locs hrel hW => ?_)
              obtain ⟨hTy, hF1, hx1⟩ := hrel
              have hFr := hFr.tr hF1 (by decide)
              have hS_rt := hF1.at hT_rt (by decide) hS_rt
              obtain ⟨fa5, pl5, hQ5, hfa5, hfb5⟩ := hx1
              obtain ⟨hS_o, hT_rn, hT_rb, hT_rt, hQg_, hen_, hta_, hte_⟩ := RQk hTy hT_o hQ5
              obtain ⟨f_6, hS_rt⟩ := hTy.k27 hT_rt
              have eg_ := hQg_.symm.trans (af_i hS_rt)
              subst eg_
              refine lv_iload_n hx hb dX6_numberWithin_90 rfl (lv_at hl 1 rfl) ?_
              exact W.iret (v := vl) hx hb hr (fun t ht h9 => ⟨⟨vl, S_4, rfl, ⟨hTy, hFr, ⟨_, _, ⟨hS_o, af_i hS_rt, by omega, by omega, by omega⟩, by rw [nbc_2 (lo := lo) (hi := hi) c_5 (by rw [← hv9]; exact fun z => nle_of_lt c_77 z.2.1)]; exact ERR_f hfa5 hfb5 (by decide), fun z => absurd z (by rw [nbc_2 (lo := lo) (hi := hi) c_5 (by rw [← hv9]; exact fun z => nle_of_lt c_77 z.2.1)]; decide)⟩⟩, by rw [ht]; exact hW.1, va_K.moved h9.alike hK, hW.2.1⟩, hW.2.2.F ht⟩) hW.2.2.2.2 dX6_numberWithin_91
            · refine lv_iload_n hx hb dX6_numberWithin_80 rfl (lv_at hl 1 rfl) ?_
              refine lv_iload_n hx hb dX6_numberWithin_81 rfl (lv_at hl 4 rfl) ?_
              refine lv_icmp_le (tgt := 90) hx hb dX6_numberWithin_82 (by decide) (fun c_82 => ?_) (fun c_82 => ?_)
              · refine lv_iload_n hx hb dX6_numberWithin_90 rfl (lv_at hl 1 rfl) ?_
                exact W.iret (v := vl) hx hb hr (fun t ht h9 => ⟨⟨vl, S_3, rfl, ⟨hTy, hFr, ⟨_, _, ⟨hS_o, af_i hS_rt, by omega, by omega, by omega⟩, by rw [nbc_0 (lo := lo) (hi := hi) c_5 (by rw [← hv9]; exact ⟨by omega, le_of_nlt c_77, c_82⟩)]; exact ERR_0, fun _ => hv9⟩⟩, by rw [ht]; exact hW.1, va_K.moved h9.alike hK, hW.2.1⟩, hW.2.2.F ht⟩) hW.2.2.2.2 dX6_numberWithin_91
              · refine lv_aload_n hx hb dX6_numberWithin_85 rfl (lv_at hl 2 rfl) ?_
                refine lv_iconst (v := 2) hx hb dX6_numberWithin_86 (by decide) ?_
                refine pl_callv (va_runV (As := [.int 2]) (rest := []) ⟨hx, hb, hml, hown, hT⟩ (q_fail l dC dI cy L kap pr S_3 H.size o 2 hTy hT_o g fa pl rn rb rt en mt (nI (tkc g en sp)) (SK g en sp) (tke g en sp) ⟨hS_o, af_i hS_rt, by omega, by omega, by omega⟩) (cwV 1 hT (gV w500 w502 ws5 w3 w503) rfl rfl rfl (by decide +kernel) ⟨(Nat.le_of_ble_eq_true rfl), (Nat.le_of_ble_eq_true rfl)⟩) ⟨pcN.blind, pl_recv hK hW hT_o.1 hS_o rfl, pcN.pre hW.1 hK hW.2.1 hN (fun q h => absurd h List.not_mem_nil)⟩ rfl rfl hl.1 rfl (lv_room (Nat.le_of_ble_eq_true rfl)) dX6_numberWithin_87 ⟨(Nat.le_of_ble_eq_true rfl), (Nat.le_of_ble_eq_true rfl)⟩) hW hA0 hA (fun S_7 H locs hrel hW => ?_)
                obtain ⟨hTy, hF1, hx1⟩ := hrel
                have hFr := hFr.tr hF1 (by decide)
                have hS_rt := hF1.at hT_rt (by decide) hS_rt
                obtain ⟨fa8, pl8, hQ8, hfa8, hfb8⟩ := hx1
                obtain ⟨hS_o, hT_rn, hT_rb, hT_rt, hQg_, hen_, hta_, hte_⟩ := RQk hTy hT_o hQ8
                obtain ⟨f_9, hS_rt⟩ := hTy.k27 hT_rt
                have eg_ := hQg_.symm.trans (af_i hS_rt)
                subst eg_
                refine lv_iload_n hx hb dX6_numberWithin_90 rfl (lv_at hl 1 rfl) ?_
                exact W.iret (v := vl) hx hb hr (fun t ht h9 => ⟨⟨vl, S_7, rfl, ⟨hTy, hFr, ⟨_, _, ⟨hS_o, af_i hS_rt, by omega, by omega, by omega⟩, by rw [nbc_2 (lo := lo) (hi := hi) c_5 (by rw [← hv9]; exact fun z => c_82 z.2.2)]; exact ERR_f hfa8 hfb8 (by decide), fun z => absurd z (by rw [nbc_2 (lo := lo) (hi := hi) c_5 (by rw [← hv9]; exact fun z => c_82 z.2.2)]; decide)⟩⟩, by rw [ht]; exact hW.1, va_K.moved h9.alike hK, hW.2.1⟩, hW.2.2.F ht⟩) hW.2.2.2.2 dX6_numberWithin_91
          · have c_50 : ¬ ((tke g en sp) ≤ i) := fun hh9 => c_50 ((nI_leI (a := tke g en sp) (b := i) (by omega) (by omega)).mpr hh9)
            refine lv_iload_n hx hb dX6_numberWithin_53 rfl (lv_at hl 1 rfl) ?_
            refine lv_bipush (v := 10) hx hb dX6_numberWithin_54 (by decide) ?_
            refine lv_imul hx hb dX6_numberWithin_56 ?_
            refine lv_topi (fun z_10 ez_10 => ?_)
            refine lv_aload_n hx hb dX6_numberWithin_57 rfl (lv_at hl 2 rfl) ?_
            refine pl_get (ci := 6) (v := .ref rt) (C := RX6) (T := TX6) (N := 10) hx hb hT iX6 hown hK hW hT_o.1 hS_o rfl 4 (by decide) w147 rfl dX6_numberWithin_58 ?_
            refine lv_iload hx hb dX6_numberWithin_61 (lv_at hl 0 rfl) ?_
            refine pl_bald hx hb hK hW hT_rt.1 hS_rt (vp_in_nI (n := i) (N := 900) (by omega) (by omega)) dX6_numberWithin_63 ?_
            refine lv_topi (fun y_11 ey_11 => ?_)
            refine lv_bipush (v := 48) hx hb dX6_numberWithin_64 (by decide) ?_
            refine lv_isub hx hb dX6_numberWithin_66 ?_
            refine lv_topi (fun z_12 ez_12 => ?_)
            refine lv_iadd hx hb dX6_numberWithin_67 ?_
            refine lv_topi (fun z_13 ez_13 => ?_)
            refine lv_istore_n (lv' := [(3, .int z_13), (4, .int (nI i)), (0, .ref o), (1, .int lo), (2, .int hi)]) hx hb dX6_numberWithin_68 rfl hl (by decide) rfl (fun ls hl => ?_)
            refine lv_iinc (v := nI (i + 1)) (lv' := [(4, .int (nI (i + 1))), (3, .int z_13), (0, .ref o), (1, .int lo), (2, .int hi)]) hx hb dX6_numberWithin_69 hl (k := 1) rfl (nI_add (i) 1) (by decide) rfl (fun ls hl => ?_)
            refine lv_goto (tgt := 44) hx hb dX6_numberWithin_72 (by decide) ?_
            exact ih44 (i + 1) z_13 _ _ _ ls (by omega) (by omega) (by omega) (by omega) (by have q_ := nv_c hvl (by rw [ey_11, nI_clamp (by omega), show SK g en sp + (i - SK g en sp) = i from by omega]) (by rw [ey_11, nI_clamp (by omega)]; exact DT_in (n := en) (i := SK g en sp) (by omega) (by omega)) ez_10 ez_12 ez_13; rw [show i + 1 - SK g en sp = i - SK g en sp + 1 from by omega]; exact q_) hTy hFr hFl44 hW (lv_sub hl [0, 1, 2, 3, 4] rfl)
      exact loop ((901 - (SK g en sp)) + 1) (SK g en sp) 0 _ _ _ ls (Nat.lt_succ_self _) (by omega) (by omega) (by omega) (by rw [Nat.sub_self]; rfl) hTy hFr Fr.rf hW (lv_sub hl [0, 1, 2, 3, 4] rfl)
    · have c_26 : ¬ (((tke g en sp) - (SK g en sp)) ≤ 8) := fun hh9 => c_26 ((nI_leI (a := (tke g en sp) - (SK g en sp)) (b := 8) (by omega) (by omega)).mpr hh9)
      refine lv_aload_n hx hb dX6_numberWithin_29 rfl (lv_at hl 0 rfl) ?_
      refine lv_iconst (v := 2) hx hb dX6_numberWithin_30 (by decide) ?_
      refine pl_callv (va_runV (As := [.int 2]) (rest := []) ⟨hx, hb, hml, hown, hT⟩ (q_fail l dC dI cy L kap pr S s.heap.size o 2 hTy hT_o g fa pl rn rb rt en mt (nI (tkc g en sp)) (SK g en sp) (tke g en sp) ⟨hS_o, af_i hS_rt, by omega, by omega, by omega⟩) (cwV 1 hT (gV w500 w502 ws5 w3 w503) rfl rfl rfl (by decide +kernel) ⟨(Nat.le_of_ble_eq_true rfl), (Nat.le_of_ble_eq_true rfl)⟩) ⟨pcN.blind, pl_recv hK hW hT_o.1 hS_o rfl, pcN.pre hW.1 hK hW.2.1 hN (fun q h => absurd h List.not_mem_nil)⟩ rfl rfl hl.1 rfl (lv_room (Nat.le_of_ble_eq_true rfl)) dX6_numberWithin_31 ⟨(Nat.le_of_ble_eq_true rfl), (Nat.le_of_ble_eq_true rfl)⟩) hW hA0 hA (fun S_14 H locs hrel hW => ?_)
      obtain ⟨hTy, hF1, hx1⟩ := hrel
      have hFr := hFr.tr hF1 (by decide)
      have hS_rt := hF1.at hT_rt (by decide) hS_rt
      obtain ⟨fa15, pl15, hQ15, hfa15, hfb15⟩ := hx1
      obtain ⟨hS_o, hT_rn, hT_rb, hT_rt, hQg_, hen_, hta_, hte_⟩ := RQk hTy hT_o hQ15
      obtain ⟨f_16, hS_rt⟩ := hTy.k27 hT_rt
      have eg_ := hQg_.symm.trans (af_i hS_rt)
      subst eg_
      refine lv_iconst (v := 0) hx hb dX6_numberWithin_34 (by decide) ?_
      exact W.iret (v := 0) hx hb hr (fun t ht h9 => ⟨⟨0, S_14, rfl, ⟨hTy, hFr, ⟨_, _, ⟨hS_o, af_i hS_rt, by omega, by omega, by omega⟩, by rw [nbc_2 (lo := lo) (hi := hi) c_5 (fun z => absurd z.1 (by omega))]; exact ERR_f hfa15 hfb15 (by decide), fun z => absurd z (by rw [nbc_2 (lo := lo) (hi := hi) c_5 (fun z => absurd z.1 (by omega))]; decide)⟩⟩, by rw [ht]; exact hW.1, va_K.moved h9.alike hK, hW.2.1⟩, hW.2.2.F ht⟩) hW.2.2.2.2 dX6_numberWithin_35
  · have c_5 : ¬ ((tkc g en sp) = 3) := fun hh9 => c_5 ((nI_eq (a := tkc g en sp) (b := 3) (by omega) (by omega)).mpr hh9)
    refine lv_aload_n hx hb dX6_numberWithin_8 rfl (lv_at hl 0 rfl) ?_
    refine lv_iconst (v := 1) hx hb dX6_numberWithin_9 (by decide) ?_
    refine pl_callv (va_runV (As := [.int 1]) (rest := []) ⟨hx, hb, hml, hown, hT⟩ (q_fail l dC dI cy L kap pr S s.heap.size o 1 hTy hT_o g fa pl rn rb rt en mt (nI (tkc g en sp)) (SK g en sp) (tke g en sp) ⟨hS_o, af_i hS_rt, by omega, by omega, by omega⟩) (cwV 1 hT (gV w500 w502 ws5 w3 w503) rfl rfl rfl (by decide +kernel) ⟨(Nat.le_of_ble_eq_true rfl), (Nat.le_of_ble_eq_true rfl)⟩) ⟨pcN.blind, pl_recv hK hW hT_o.1 hS_o rfl, pcN.pre hW.1 hK hW.2.1 hN (fun q h => absurd h List.not_mem_nil)⟩ rfl rfl hl.1 rfl (lv_room (Nat.le_of_ble_eq_true rfl)) dX6_numberWithin_10 ⟨(Nat.le_of_ble_eq_true rfl), (Nat.le_of_ble_eq_true rfl)⟩) hW hA0 hA (fun S_17 H locs hrel hW => ?_)
    obtain ⟨hTy, hF1, hx1⟩ := hrel
    have hFr := hFr.tr hF1 (by decide)
    have hS_rt := hF1.at hT_rt (by decide) hS_rt
    obtain ⟨fa18, pl18, hQ18, hfa18, hfb18⟩ := hx1
    obtain ⟨hS_o, hT_rn, hT_rb, hT_rt, hQg_, hen_, hta_, hte_⟩ := RQk hTy hT_o hQ18
    obtain ⟨f_19, hS_rt⟩ := hTy.k27 hT_rt
    have eg_ := hQg_.symm.trans (af_i hS_rt)
    subst eg_
    refine lv_iconst (v := 0) hx hb dX6_numberWithin_13 (by decide) ?_
    exact W.iret (v := 0) hx hb hr (fun t ht h9 => ⟨⟨0, S_17, rfl, ⟨hTy, hFr, ⟨_, _, ⟨hS_o, af_i hS_rt, by omega, by omega, by omega⟩, by rw [nbc_1 c_5]; exact ERR_f hfa18 hfb18 (by decide), fun z => absurd z (by rw [nbc_1 c_5]; decide)⟩⟩, by rw [ht]; exact hW.1, va_K.moved h9.alike hK, hW.2.1⟩, hW.2.2.F ht⟩) hW.2.2.2.2 dX6_numberWithin_14

