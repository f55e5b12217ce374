/-! the class's lines -/
section CLN
variable {g : Nat → Int32} {n np nk p : Nat} {df : Nat → Nat × Nat} {wr wa wr1 wa1 wr2 wa2 : Int32} {c1 q1 c2 q2 : Nat}
/-- two checks, one after the other -/
theorem ERR_2 (k1 : c1 < 100) (h1 : ERR wr wa c1 q1 wr1 wa1) (h2 : ERR wr1 wa1 c2 q2 wr2 wa2) : ERR wr wa (fe (c1, q1) (c2, q2)).1 (fe (c1, q1) (c2, q2)).2 wr2 wa2 := ERR_t k1 h1 h2.1 (fun _ _ => h2)
/-- the line's word where one is too many -/
def FU (b : Bool) (q : Nat) : Nat × Nat := if b = true then (4, q) else (0, 0)
theorem FU_b {b : Bool} {q : Nat} : (FU b q).1 < 100 := by
  unfold FU
  split
  · show 4 < 100
    omega
  · show 0 < 100
    omega
theorem SK_SK (hp : p ≤ n) (hn : n ≤ 900) : SK g n (SK g n p) = SK g n p := by
  have h := SK_le (g := g) hp
  refine SK_s (Nat.le_refl _) (by omega) (fun k a b => by omega) (fun z => ?_)
  exact adv_en (P := PS g n) (n := n) (fun k hk z => by have z := of_decide_eq_true z; omega) 2000 p (by omega) (decide_eq_true z)
theorem tkc_SK (hp : p ≤ n) (hn : n ≤ 900) : tkc g n (SK g n p) = tkc g n p ∧ tke g n (SK g n p) = tke g n p := by
  unfold tkc tke
  rw [SK_SK hp hn]
  exact ⟨rfl, rfl⟩
theorem nz_nnc {wr wa wr' wa' : Int32} {c q : Nat} (h : ERR wr wa c q wr' wa') (hc : c < 100) (h0 : wr = 0) (h1 : wr' = 0) : c = 0 := by
  by_cases z : c = 0
  · exact z
  · exact absurd h1 (ERR_n h h0 z hc).1
theorem z_ERR {wr wa wr' wa' : Int32} {c q : Nat} (h : ERR wr wa c q wr' wa') (h1 : wr' = 0) : wr = 0 := by
  by_cases z : wr = 0
  · exact z
  · have e := (h.1 z).1
    rw [h1] at e
    exact absurd e.symm z
end CLN

set_option maxHeartbeats 4000000 in
set_option maxRecDepth 100000 in
theorem q_readSemicolon (l : Launch) (dC : Nat → ClassId) (dI : Nat → Nat → Nat) (cy : Nat → ClassId) (L : List Nat) (kap : Nat → Nat) (pr : Pr) (ad : (Nat → Nat) × (Nat → Nat)) (S : Nat → va_E) (sz : Nat) (o : Nat) (hTy : Ty cy L kap pr S) (hT_o : TK L kap o 6) (g : Nat → Int32) (fa : Int32) (pl : Int32) (rn : Nat) (rb : Nat) (rt : Nat) (en : Nat) (mt : Int32) (sp : Nat) (hQ : RQ S o g fa pl rn rb rt en mt (nI (tkc g en sp)) (SK g en sp) (tke g en sp)) (hp : sp ≤ en) : Met l yX6_readSemicolon (wT yX6_readSemicolon cX6_readSemicolon 1 none) ({ frames := 7, cells := 0, slots := 0, locals := 147 }) (pcS dC dI [.ref o] sz L S (cyT cy) NLs ad) (va_Qv (fun S' => Ty cy L kap pr S' ∧ Fr kap [6] S S' ∧ (∃ fa' pl', RQ S' o g fa' pl' rn rb rt en mt (nI (tkc g en (tke g en sp))) (SK g en (tke g en sp)) (tke g en (tke g en sp)) ∧ ERR fa pl (ES g en sp).1 (ES g en sp).2 fa' pl')) (fun S' t => pB dC dI (AL L sz) (va_pl L S') (cyT cy) t) (AL L sz)) 0 0 (AL L sz) := by
  refine Met.ofW (cc := cX6_readSemicolon) (maxL := 1) (ret := none) (by decide) rfl ?_
  intro p e s m args below meth c s₁ B hml hv
  obtain ⟨rfl, hsz, hP, hK, hD0, hN, hSTR⟩ := hv
  have hx := B.exec
  have hb := B.bytes
  have hr := B.returns
  have hT : ∀ wd ∈ TB, wd.before [.ref o].toArray s = true := fun wd h => atoms_spec (ws := wT yX6_readSemicolon cX6_readSemicolon 1 none) B.pre wd (List.mem_cons_of_mem _ h)
  have hown : s.vm.findClass RX6 = some m.cls := findClass_of_methodNamed B.named
  have hlocks := B.notSynchronized
  subst hsz
  have hW : PW dC dI L (AL L s.heap.size) s.heap S s.heap [] := ⟨hP, pl_self hD0, va_S.rf⟩
  have hA0 : ∀ q, q ∈ L → AL L s.heap.size q := fun _ h => Or.inl h
  have hA : ∀ q, s.heap.size ≤ q → AL L s.heap.size q := fun _ h => Or.inr h
  have hFr : Fr kap [6] S S := Fr.rf
  have hl := lv_entry ([.ref o]) (n := 1) (Nat.le_of_ble_eq_true rfl)
  rw [lg_entry_eq]
  generalize (lg_sl ([.ref o]) ++ List.replicate (1 - (lg_sl ([.ref o])).length) Slot.unset).toArray = ls at hl ⊢
  have hl : lv_has ls 1 [(0, .ref o)] := hl
  obtain ⟨hS_o, hT_rn, hT_rb, hT_rt, hQg_, hen_, hta_, hte_⟩ := RQk hTy hT_o hQ
  obtain ⟨f_1, hS_rt⟩ := hTy.k27 hT_rt
  have eg_ := hQg_.symm.trans (af_i hS_rt)
  subst eg_
  have htkb_ := tkc_le (g := g) (n := en) (p := sp)
  have htb_ := tke_b (g := g) (n := en) (p := sp) (by omega) (by omega)
  refine lv_aload_n hx hb dX6_readSemicolon_0 rfl (lv_at hl 0 rfl) ?_
  refine pl_get (ci := 6) (v := .int (nI (tkc g en sp))) (C := RX6) (T := TX6) (N := 10) hx hb hT iX6 hown hK hW hT_o.1 hS_o rfl 7 (by decide) w150 rfl dX6_readSemicolon_1 ?_
  refine lv_iconst (v := 2) hx hb dX6_readSemicolon_4 (by decide) ?_
  refine lv_icmp_eq (tgt := 13) hx hb dX6_readSemicolon_5 (by decide) (fun c_5 => ?_) (fun c_5 => ?_)
  · have c_5 : (tkc g en sp) = 2 := (nI_eq (a := tkc g en sp) (b := 2) (by omega) (by omega)).mp c_5
    refine lv_aload_n hx hb dX6_readSemicolon_13 rfl (lv_at hl 0 rfl) ?_
    refine pl_callv (va_runV (As := []) (rest := []) ⟨hx, hb, hml, hown, hT⟩ (q_next l dC dI cy L kap pr ad S s.heap.size o hTy hT_o g fa pl rn rb rt en mt (nI (tkc g en sp)) (SK g en sp) (tke g en sp) ⟨hS_o, af_i hS_rt, by omega, by omega, by omega⟩ (by omega)) (cwV 0 hT (gV w420 w422 ws0 w3 w423) rfl rfl rfl (by decide +kernel) ⟨(Nat.le_of_ble_eq_true rfl), (Nat.le_of_ble_eq_true rfl)⟩) ⟨pcS.blind, pl_recv hK hW hT_o.1 hS_o rfl, pcS.pre hW.1 hK hW.2.1 hN hSTR hW.2.2⟩ rfl rfl hl.1 rfl (lv_room (Nat.le_of_ble_eq_true rfl)) dX6_readSemicolon_14 ⟨(Nat.le_of_ble_eq_true rfl), (Nat.le_of_ble_eq_true rfl)⟩) hW hA0 hA (fun S_2 H locs hrel hW => ?_)
    obtain ⟨hTy, hF1, hx1⟩ := hrel
    have hFr := hFr.tr hF1 (by decide)
    have hS_rt := hF1.at hT_rt (by decide) hS_rt
    have htb_ := tke_b (g := g) (n := en) (p := tke g en sp) (by omega) (by omega)
    have hsg_ := SK_ge (g := g) (n := en) (i := tke g en sp)
    obtain ⟨hS_o, hT_rn, hT_rb, hT_rt, hQg_, hen_, hta_, hte_⟩ := RQk hTy hT_o hx1
    obtain ⟨f_3, hS_rt⟩ := hTy.k27 hT_rt
    have eg_ := hQg_.symm.trans (af_i hS_rt)
    subst eg_
    have htkb_ := tkc_le (g := g) (n := en) (p := tke g en sp)
    exact W.vret hx hb hr (fun t ht h9 => ⟨⟨S_2, rfl, ⟨hTy, hFr, ⟨_, _, ⟨hS_o, af_i hS_rt, by omega, by omega, by omega⟩, by rw [ES, if_pos c_5]; exact ERR_0⟩⟩, by rw [ht]; exact hW.1, va_K.moved h9.alike hK, hW.2.1⟩, hW.2.2.F ht⟩) hW.2.2.2.2 dX6_readSemicolon_17
  · have c_5 : ¬ ((tkc g en sp) = 2) := fun hh9 => c_5 ((nI_eq (a := tkc g en sp) (b := 2) (by omega) (by omega)).mpr hh9)
    refine lv_aload_n hx hb dX6_readSemicolon_8 rfl (lv_at hl 0 rfl) ?_
    refine lv_iconst (v := 1) hx hb dX6_readSemicolon_9 (by decide) ?_
    refine pl_callv (va_runV (As := [.int 1]) (rest := []) ⟨hx, hb, hml, hown, hT⟩ (q_fail l dC dI cy L kap pr S s.heap.size o 1 hTy hT_o g fa pl rn rb rt en mt (nI (tkc g en sp)) (SK g en sp) (tke g en sp) ⟨hS_o, af_i hS_rt, by omega, by omega, by omega⟩) (cwV 1 hT (gV w500 w502 ws5 w3 w503) rfl rfl rfl (by decide +kernel) ⟨(Nat.le_of_ble_eq_true rfl), (Nat.le_of_ble_eq_true rfl)⟩) ⟨pcN.blind, pl_recv hK hW hT_o.1 hS_o rfl, pcN.pre hW.1 hK hW.2.1 hN (fun q h => absurd h List.not_mem_nil)⟩ rfl rfl hl.1 rfl (lv_room (Nat.le_of_ble_eq_true rfl)) dX6_readSemicolon_10 ⟨(Nat.le_of_ble_eq_true rfl), (Nat.le_of_ble_eq_true rfl)⟩) hW hA0 hA (fun S_4 H locs hrel hW => ?_)
    obtain ⟨hTy, hF1, hx1⟩ := hrel
    have hFr := hFr.tr hF1 (by decide)
    have hS_rt := hF1.at hT_rt (by decide) hS_rt
    obtain ⟨fa5, pl5, hQ5, hfa5, hfb5⟩ := hx1
    obtain ⟨hS_o, hT_rn, hT_rb, hT_rt, hQg_, hen_, hta_, hte_⟩ := RQk hTy hT_o hQ5
    obtain ⟨f_6, hS_rt⟩ := hTy.k27 hT_rt
    have eg_ := hQg_.symm.trans (af_i hS_rt)
    subst eg_
    refine lv_aload_n hx hb dX6_readSemicolon_13 rfl (lv_at hl 0 rfl) ?_
    refine pl_callv (va_runV (As := []) (rest := []) ⟨hx, hb, hml, hown, hT⟩ (q_next l dC dI cy L kap pr ad S_4 H.size o hTy hT_o g fa5 pl5 rn rb rt en mt (nI (tkc g en sp)) (SK g en sp) (tke g en sp) ⟨hS_o, af_i hS_rt, by omega, by omega, by omega⟩ (by omega)) (cwV 0 hT (gV w420 w422 ws0 w3 w423) rfl rfl rfl (by decide +kernel) ⟨(Nat.le_of_ble_eq_true rfl), (Nat.le_of_ble_eq_true rfl)⟩) ⟨pcS.blind, pl_recv hK hW hT_o.1 hS_o rfl, pcS.pre hW.1 hK hW.2.1 hN hSTR hW.2.2⟩ rfl rfl hl.1 rfl (lv_room (Nat.le_of_ble_eq_true rfl)) dX6_readSemicolon_14 ⟨(Nat.le_of_ble_eq_true rfl), (Nat.le_of_ble_eq_true rfl)⟩) hW hA0 hA (fun S_7 H locs hrel hW => ?_)
    obtain ⟨hTy, hF1, hx1⟩ := hrel
    have hFr := hFr.tr hF1 (by decide)
    have hS_rt := hF1.at hT_rt (by decide) hS_rt
    have htb_ := tke_b (g := g) (n := en) (p := tke g en sp) (by omega) (by omega)
    have hsg_ := SK_ge (g := g) (n := en) (i := tke g en sp)
    obtain ⟨hS_o, hT_rn, hT_rb, hT_rt, hQg_, hen_, hta_, hte_⟩ := RQk hTy hT_o hx1
    obtain ⟨f_8, hS_rt⟩ := hTy.k27 hT_rt
    have eg_ := hQg_.symm.trans (af_i hS_rt)
    subst eg_
    have htkb_ := tkc_le (g := g) (n := en) (p := tke g en sp)
    exact W.vret hx hb hr (fun t ht h9 => ⟨⟨S_7, rfl, ⟨hTy, hFr, ⟨_, _, ⟨hS_o, af_i hS_rt, by omega, by omega, by omega⟩, by rw [ES, if_neg c_5]; exact ERR_f hfa5 hfb5 (show (1 : Nat) ≠ 0 from by decide)⟩⟩, by rw [ht]; exact hW.1, va_K.moved h9.alike hK, hW.2.1⟩, hW.2.2.F ht⟩) hW.2.2.2.2 dX6_readSemicolon_17

