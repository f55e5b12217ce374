set_option maxHeartbeats 4000000 in
set_option maxRecDepth 100000 in
theorem q_bclear (l : Launch) (dC : Nat → ClassId) (dI : Nat → Nat → Nat) (cy : Nat → ClassId) (L : List Nat) (kap : Nat → Nat) (pr : Pr) (S : Nat → va_E) (sz : Nat) (o : Nat) (hTy : Ty cy L kap pr S) (hT_o : TK L kap o 0) : Met l yX0_clear (wT yX0_clear cX0_clear 1 none) ({ frames := 1, cells := 0, slots := 0, locals := 23 }) (pcN dC dI [.ref o] sz (va_pl L S) (cyT cy) NLs []) (va_Qv (fun S' => Ty cy L kap pr S' ∧ Fr kap [0, 24] S S' ∧ (inf (S' o) 6 = nI 0)) (fun S' t => pB dC dI (AL L sz) (va_pl L S') (cyT cy) t) (AL L sz)) 0 0 (AL L sz) := by
  refine Met.ofW (cc := cX0_clear) (maxL := 1) (ret := none) (by decide) rfl ?_
  intro p e s m args below meth c s₁ B hml hv
  obtain ⟨rfl, hsz, hP, hK, hD0, hN, -⟩ := hv
  have hx := B.exec
  have hb := B.bytes
  have hr := B.returns
  have hT : ∀ wd ∈ TB, wd.before [.ref o].toArray s = true := fun wd h => atoms_spec (ws := wT yX0_clear cX0_clear 1 none) B.pre wd (List.mem_cons_of_mem _ h)
  have hown : s.vm.findClass RX0 = some m.cls := findClass_of_methodNamed B.named
  have hlocks := B.notSynchronized
  subst hsz
  have hW : PW dC dI L (AL L s.heap.size) s.heap S s.heap [] := ⟨hP, pl_self hD0, va_S.rf⟩
  have hA0 : ∀ q, q ∈ L → AL L s.heap.size q := fun _ h => Or.inl h
  have hA : ∀ q, s.heap.size ≤ q → AL L s.heap.size q := fun _ h => Or.inr h
  have hFr : Fr kap [0, 24] S S := Fr.rf
  have hl := lv_entry ([.ref o]) (n := 1) (Nat.le_of_ble_eq_true rfl)
  rw [lg_entry_eq]
  generalize (lg_sl ([.ref o]) ++ List.replicate (1 - (lg_sl ([.ref o])).length) Slot.unset).toArray = ls at hl ⊢
  have hl : lv_has ls 1 [(0, .ref o)] := hl
  refine lv_aload_n hx hb dX0_clear_0 rfl (lv_at hl 0 rfl) ?_
  obtain ⟨x_1, x_2, x_3, x_4, x_5, x_6, x_7, x_8, hS_o, hT_x_1, hT_x_2, hT_x_3, hT_x_4, hT_x_5, hT_x_6, hb_x_7⟩ := hTy.k0 hT_o
  refine pl_get (ci := 0) (v := .ref x_6) (C := RX0) (T := TX0) (N := 8) hx hb hT iX0 hown hK hW hT_o.1 hS_o rfl 5 (by decide) w109 rfl dX0_clear_1 ?_
  refine lv_ldc (v := 99999999) hx hb hown (hT _ w84) dX0_clear_4 ?_
  refine pl_callv (va_runS (As := [.ref x_6, .int 99999999]) (rest := []) ⟨hx, hb, hml, hown, hT⟩ (s_bclear0 l dC dI cy L kap pr S s.heap.size x_6 99999999 hTy hT_x_6) (va_cwS 2 hT (gS w85 w86 w6 w87) rfl rfl rfl (by decide +kernel) ⟨(Nat.le_of_ble_eq_true rfl), (Nat.le_of_ble_eq_true rfl)⟩) ⟨pcN.blind, pcN.pre hW.1 hK hW.2.1 hN (fun q h => absurd h List.not_mem_nil)⟩ rfl rfl hl.1 rfl (lv_room (Nat.le_of_ble_eq_true rfl)) dX0_clear_6 ⟨(Nat.le_of_ble_eq_true rfl), (Nat.le_of_ble_eq_true rfl)⟩) hW hA0 hA (fun S_9 H locs hrel hW => ?_)
  obtain ⟨hTy, hF1⟩ := hrel
  have hFr := hFr.tr hF1 (by decide)
  have hS_o := hF1.at hT_o (by decide) hS_o
  refine lv_aload_n hx hb dX0_clear_9 rfl (lv_at hl 0 rfl) ?_
  refine lv_iconst (v := 0) hx hb dX0_clear_10 (by decide) ?_
  refine pl_put (ci := 0) (v := .int 0) (ty := .int) (C := RX0) (T := TX0) (N := 8) (fs' := [.ref x_1, .ref x_2, .ref x_3, .ref x_4, .ref x_5, .ref x_6, .int 0, .int x_8]) hx hb hT iX0 tyX0 tyX0_ok nmX0 hown hK hW hT_o.1 hS_o rfl 6 (by decide) w112 rfl (by decide +kernel) rfl rfl (Nat.le_of_ble_eq_true rfl) rfl dX0_clear_11 (fun H locs S_10 e1 hW => ?_)
  have hTy := hTy.u0 e1 hT_o ⟨x_1, x_2, x_3, x_4, x_5, x_6, 0, x_8, rfl, hT_x_1, hT_x_2, hT_x_3, hT_x_4, hT_x_5, hT_x_6, (by omega)⟩
  have hFr := uf hFr e1 hT_o (by decide) (by decide)
  have hS_o := us e1
  refine lv_aload_n hx hb dX0_clear_14 rfl (lv_at hl 0 rfl) ?_
  refine lv_iconst (v := 0) hx hb dX0_clear_15 (by decide) ?_
  refine pl_put (ci := 0) (v := .int 0) (ty := .int) (C := RX0) (T := TX0) (N := 8) (fs' := [.ref x_1, .ref x_2, .ref x_3, .ref x_4, .ref x_5, .ref x_6, .int 0, .int 0]) hx hb hT iX0 tyX0 tyX0_ok nmX0 hown hK hW hT_o.1 hS_o rfl 7 (by decide) w116 rfl (by decide +kernel) rfl rfl (Nat.le_of_ble_eq_true rfl) rfl dX0_clear_16 (fun H locs S_11 e1 hW => ?_)
  have hTy := hTy.u0 e1 hT_o ⟨x_1, x_2, x_3, x_4, x_5, x_6, 0, 0, rfl, hT_x_1, hT_x_2, hT_x_3, hT_x_4, hT_x_5, hT_x_6, (by omega)⟩
  have hFr := uf hFr e1 hT_o (by decide) (by decide)
  have hS_o := us e1
  exact W.vret hx hb hr (fun t ht h9 => ⟨⟨S_11, rfl, ⟨hTy, hFr, (inf_i hS_o rfl)⟩, by rw [ht]; exact hW.1, va_K.moved h9.alike hK, hW.2.1⟩, hW.2.2.F ht⟩) hW.2.2.2.2 dX0_clear_19

set_option maxHeartbeats 4000000 in
set_option maxRecDepth 100000 in
theorem q_nclear (l : Launch) (dC : Nat → ClassId) (dI : Nat → Nat → Nat) (cy : Nat → ClassId) (L : List Nat) (kap : Nat → Nat) (pr : Pr) (S : Nat → va_E) (sz : Nat) (o : Nat) (hTy : Ty cy L kap pr S) (hT_o : TK L kap o 3) : Met l yX3_clear (wT yX3_clear cX3_clear 1 none) ({ frames := 0, cells := 0, slots := 0, locals := 0 }) (pcN dC dI [.ref o] sz (va_pl L S) (cyT cy) NLs []) (va_Qv (fun S' => Ty cy L kap pr S' ∧ Fr kap [3] S S' ∧ (inf (S' o) 2 = nI 0 ∧ inf (S' o) 3 = nI 0)) (fun S' t => pB dC dI (AL L sz) (va_pl L S') (cyT cy) t) (AL L sz)) 0 0 (AL L sz) := by
  refine Met.ofW (cc := cX3_clear) (maxL := 1) (ret := none) (by decide) rfl ?_
  intro p e s m args below meth c s₁ B hml hv
  obtain ⟨rfl, hsz, hP, hK, hD0, hN, -⟩ := hv
  have hx := B.exec
  have hb := B.bytes
  have hr := B.returns
  have hT : ∀ wd ∈ TB, wd.before [.ref o].toArray s = true := fun wd h => atoms_spec (ws := wT yX3_clear cX3_clear 1 none) B.pre wd (List.mem_cons_of_mem _ h)
  have hown : s.vm.findClass RX3 = some m.cls := findClass_of_methodNamed B.named
  have hlocks := B.notSynchronized
  subst hsz
  have hW : PW dC dI L (AL L s.heap.size) s.heap S s.heap [] := ⟨hP, pl_self hD0, va_S.rf⟩
  have hA0 : ∀ q, q ∈ L → AL L s.heap.size q := fun _ h => Or.inl h
  have hA : ∀ q, s.heap.size ≤ q → AL L s.heap.size q := fun _ h => Or.inr h
  have hFr : Fr kap [3] S S := Fr.rf
  have hl := lv_entry ([.ref o]) (n := 1) (Nat.le_of_ble_eq_true rfl)
  rw [lg_entry_eq]
  generalize (lg_sl ([.ref o]) ++ List.replicate (1 - (lg_sl ([.ref o])).length) Slot.unset).toArray = ls at hl ⊢
  have hl : lv_has ls 1 [(0, .ref o)] := hl
  refine lv_aload_n hx hb dX3_clear_0 rfl (lv_at hl 0 rfl) ?_
  refine lv_iconst (v := 0) hx hb dX3_clear_1 (by decide) ?_
  obtain ⟨x_1, x_2, x_3, x_4, hS_o, hT_x_1, hT_x_2, hb_x_3, hb_x_4⟩ := hTy.k3 hT_o
  refine pl_put (ci := 3) (v := .int 0) (ty := .int) (C := RX3) (T := TX3) (N := 4) (fs' := [.ref x_1, .ref x_2, .int 0, .int (nI x_4)]) hx hb hT iX3 tyX3 tyX3_ok nmX3 hown hK hW hT_o.1 hS_o rfl 2 (by decide) w62 rfl (by decide +kernel) rfl rfl (Nat.le_of_ble_eq_true rfl) rfl dX3_clear_2 (fun H locs S_5 e1 hW => ?_)
  have hTy := hTy.u3 e1 hT_o ⟨x_1, x_2, 0, x_4, rfl, hT_x_1, hT_x_2, (by omega), (by omega)⟩
  have hFr := uf hFr e1 hT_o (by decide) (by decide)
  have hS_o := us e1
  refine lv_aload_n hx hb dX3_clear_5 rfl (lv_at hl 0 rfl) ?_
  refine lv_iconst (v := 0) hx hb dX3_clear_6 (by decide) ?_
  refine pl_put (ci := 3) (v := .int 0) (ty := .int) (C := RX3) (T := TX3) (N := 4) (fs' := [.ref x_1, .ref x_2, .int 0, .int 0]) hx hb hT iX3 tyX3 tyX3_ok nmX3 hown hK hW hT_o.1 hS_o rfl 3 (by decide) w65 rfl (by decide +kernel) rfl rfl (Nat.le_of_ble_eq_true rfl) rfl dX3_clear_7 (fun H locs S_6 e1 hW => ?_)
  have hTy := hTy.u3 e1 hT_o ⟨x_1, x_2, 0, 0, rfl, hT_x_1, hT_x_2, (by omega), (by omega)⟩
  have hFr := uf hFr e1 hT_o (by decide) (by decide)
  have hS_o := us e1
  exact W.vret hx hb hr (fun t ht h9 => ⟨⟨S_6, rfl, ⟨hTy, hFr, ⟨inf_i hS_o rfl, inf_i hS_o rfl⟩⟩, by rw [ht]; exact hW.1, va_K.moved h9.alike hK, hW.2.1⟩, hW.2.2.F ht⟩) hW.2.2.2.2 dX3_clear_10

set_option maxHeartbeats 4000000 in
set_option maxRecDepth 100000 in
theorem q_read (l : Launch) (dC : Nat → ClassId) (dI : Nat → Nat → Nat) (cy : Nat → ClassId) (L : List Nat) (kap : Nat → Nat) (pr : Pr) (ad : (Nat → Nat) × (Nat → Nat)) (S : Nat → va_E) (sz : Nat) (o : Nat) (ln : Nat) (hTy : Ty cy L kap pr S) (hT_o : TK L kap o 6) (hb_ln : ln ≤ 900) (g : Nat → Int32) (fa : Int32) (pl : Int32) (rn : Nat) (rb : Nat) (rt : Nat) (en : Nat) (mt : Int32) (tk : Int32) (ta : Nat) (te : Nat) (hQ : RQ S o g fa pl rn rb rt en mt tk ta te) (hg : BR g) : Met l yX6_read (wT yX6_read cX6_read 3 none) ({ frames := 9, cells := 0, slots := 0, locals := 191 }) (pcS dC dI [.ref o, .int (nI ln)] sz L S (cyT cy) NLs ad) (va_Qv (fun S' => Ty cy L kap pr S' ∧ Fr kap [0, 3, 6, 20, 21, 22, 23, 24, 25, 26] S S' ∧ (∃ (fa' pl' mt' tk' : Int32) (ta' te' : Nat), RQ S' o g fa' pl' rn rb rt ln mt' tk' ta' te' ∧ RDX S' g ln rb fa' pl')) (fun S' t => pB dC dI (AL L sz) (va_pl L S') (cyT cy) t) (AL L sz)) 0 0 (AL L sz) := by
  refine Met.ofW (cc := cX6_read) (maxL := 3) (ret := none) (by decide) rfl ?_
  intro p e s m args below meth c s₁ B hml hv
  obtain ⟨rfl, hsz, hP, hK, hD0, hN, hSTR⟩ := hv
  have hx := B.exec
  have hb := B.bytes
  have hr := B.returns
  have hT : ∀ wd ∈ TB, wd.before [.ref o, .int (nI ln)].toArray s = true := fun wd h => atoms_spec (ws := wT yX6_read cX6_read 3 none) B.pre wd (List.mem_cons_of_mem _ h)
  have hown : s.vm.findClass RX6 = some m.cls := findClass_of_methodNamed B.named
  have hlocks := B.notSynchronized
  subst hsz
  have hW : PW dC dI L (AL L s.heap.size) s.heap S s.heap [] := ⟨hP, pl_self hD0, va_S.rf⟩
  have hA0 : ∀ q, q ∈ L → AL L s.heap.size q := fun _ h => Or.inl h
  have hA : ∀ q, s.heap.size ≤ q → AL L s.heap.size q := fun _ h => Or.inr h
  have hFr : Fr kap [0, 3, 6, 20, 21, 22, 23, 24, 25, 26] S S := Fr.rf
  have hl := lv_entry ([.ref o, .int (nI ln)]) (n := 3) (Nat.le_of_ble_eq_true rfl)
  rw [lg_entry_eq]
  generalize (lg_sl ([.ref o, .int (nI ln)]) ++ List.replicate (3 - (lg_sl ([.ref o, .int (nI ln)])).length) Slot.unset).toArray = ls at hl ⊢
  have hl : lv_has ls 3 [(0, .ref o), (1, .int (nI ln))] := hl
  obtain ⟨hS_o, hT_rn, hT_rb, hT_rt, hQg_, hen_, hta_, hte_⟩ := RQk hTy hT_o hQ
  obtain ⟨f_1, hS_rt⟩ := hTy.k27 hT_rt
  have eg_ := hQg_.symm.trans (af_i hS_rt)
  subst eg_
  refine lv_aload_n hx hb dX6_read_0 rfl (lv_at hl 0 rfl) ?_
  refine lv_iload_n hx hb dX6_read_1 rfl (lv_at hl 1 rfl) ?_
  refine lv_aload_n hx hb dX6_read_2 rfl (lv_at hl 0 rfl) ?_
  refine pl_get (ci := 6) (v := .ref rt) (C := RX6) (T := TX6) (N := 10) hx hb hT iX6 hown hK hW hT_o.1 hS_o rfl 4 (by decide) w147 rfl dX6_read_3 ?_
  refine pl_alen (v := 900) hx hb hK hW hT_rt.1 hS_rt 2 rfl rfl dX6_read_6 ?_
  refine va_mmin hx hb (hml.trans hl.1.symm) hown (hT _ w409) (hT _ w410) (hT _ w15) (hT _ w411) (Nat.le_of_ble_eq_true rfl) (Nat.le_of_ble_eq_true rfl) (Nat.le_of_ble_eq_true rfl) (Nat.le_of_ble_eq_true rfl) dX6_read_7 ?_
  refine lv_topi (fun z_2 ez_2 => ?_)
  obtain rfl : z_2 = nI ln := ez_2.trans (min900 (by omega))
  refine pl_put (ci := 6) (v := .int (nI ln)) (ty := .int) (C := RX6) (T := TX6) (N := 10) (fs' := [.int fa, .int pl, .ref rn, .ref rb, .ref rt, .int (nI ln), .int mt, .int tk, .int (nI ta), .int (nI te)]) hx hb hT iX6 tyX6 tyX6_ok nmX6 hown hK hW hT_o.1 hS_o rfl 5 (by decide) w148 rfl (by decide +kernel) rfl rfl (Nat.le_of_ble_eq_true rfl) rfl dX6_read_10 (fun H locs S_3 e1 hW => ?_)
  have hTy := hTy.u6 e1 hT_o ⟨fa, pl, rn, rb, rt, ln, mt, tk, ta, te, rfl, hT_rn, hT_rb, hT_rt, (by omega), (by omega), (by omega)⟩
  have hS_rt := un e1 hT_rt hT_o (by decide) hS_rt
  have hFr := uf hFr e1 hT_o (by decide) (by decide)
  have hS_o := us e1
  refine lv_aload_n hx hb dX6_read_13 rfl (lv_at hl 0 rfl) ?_
  refine pl_get (ci := 6) (v := .ref rn) (C := RX6) (T := TX6) (N := 10) hx hb hT iX6 hown hK hW hT_o.1 hS_o rfl 2 (by decide) w143 rfl dX6_read_14 ?_
  obtain ⟨x_4, x_5, x_6, x_7, hS_rn, hT_x_4, hT_x_5, hb_x_6, hb_x_7⟩ := hTy.k3 hT_rn
  refine pl_callv (va_runV (As := []) (rest := []) ⟨hx, hb, hml, hown, hT⟩ (q_nclear l dC dI cy L kap pr S_3 H.size rn hTy hT_rn) (cwV 0 hT (gV w412 w413 w414 w4 w415) rfl rfl rfl (by decide +kernel) ⟨(Nat.le_of_ble_eq_true rfl), (Nat.le_of_ble_eq_true rfl)⟩) ⟨pcN.blind, pl_recv hK hW hT_rn.1 hS_rn rfl, pcN.pre hW.1 hK hW.2.1 hN (fun q h => absurd h List.not_mem_nil)⟩ rfl rfl hl.1 rfl (lv_room (Nat.le_of_ble_eq_true rfl)) dX6_read_17 ⟨(Nat.le_of_ble_eq_true rfl), (Nat.le_of_ble_eq_true rfl)⟩) hW hA0 hA (fun S_8 H locs hrel hW => ?_)
  obtain ⟨hTy, hF1, hx1⟩ := hrel
  have hFr := hFr.tr hF1 (by decide)
  have hS_o := hF1.at hT_o (by decide) hS_o
  have hS_rt := hF1.at hT_rt (by decide) hS_rt
  obtain ⟨x_9, x_10, x_11, x_12, hS_rn, hT_x_9, hT_x_10, hb_x_11, hb_x_12⟩ := hTy.k3 hT_rn
  obtain ⟨hz2_, hz3_⟩ := hx1
  obtain rfl : x_11 = 0 := (nI_eq (by omega) (by omega)).mp ((inf_i hS_rn rfl).symm.trans hz2_)
  obtain rfl : x_12 = 0 := (nI_eq (by omega) (by omega)).mp ((inf_i hS_rn rfl).symm.trans hz3_)
  refine lv_aload_n hx hb dX6_read_20 rfl (lv_at hl 0 rfl) ?_
  refine pl_get (ci := 6) (v := .ref rb) (C := RX6) (T := TX6) (N := 10) hx hb hT iX6 hown hK hW hT_o.1 hS_o rfl 3 (by decide) w145 rfl dX6_read_21 ?_
  obtain ⟨x_13, x_14, x_15, x_16, x_17, x_18, x_19, x_20, hS_rb, hT_x_13, hT_x_14, hT_x_15, hT_x_16, hT_x_17, hT_x_18, hb_x_19⟩ := hTy.k0 hT_rb
  refine pl_callv (va_runV (As := []) (rest := []) ⟨hx, hb, hml, hown, hT⟩ (q_bclear l dC dI cy L kap pr S_8 H.size rb hTy hT_rb) (cwV 0 hT (gV w416 w417 w418 w5 w419) rfl rfl rfl (by decide +kernel) ⟨(Nat.le_of_ble_eq_true rfl), (Nat.le_of_ble_eq_true rfl)⟩) ⟨pcN.blind, pl_recv hK hW hT_rb.1 hS_rb rfl, pcN.pre hW.1 hK hW.2.1 hN (fun q h => absurd h List.not_mem_nil)⟩ rfl rfl hl.1 rfl (lv_room (Nat.le_of_ble_eq_true rfl)) dX6_read_24 ⟨(Nat.le_of_ble_eq_true rfl), (Nat.le_of_ble_eq_true rfl)⟩) hW hA0 hA (fun S_21 H locs hrel hW => ?_)
  obtain ⟨hTy, hF1, hx1⟩ := hrel
  have hFr := hFr.tr hF1 (by decide)
  have hS_o := hF1.at hT_o (by decide) hS_o
  have hS_rt := hF1.at hT_rt (by decide) hS_rt
  have hS_rn := hF1.at hT_rn (by decide) hS_rn
  obtain ⟨x_22, x_23, x_24, x_25, x_26, x_27, x_28, x_29, hS_rb, hT_x_22, hT_x_23, hT_x_24, hT_x_25, hT_x_26, hT_x_27, hb_x_28⟩ := hTy.k0 hT_rb
  obtain rfl : x_28 = 0 := (nI_eq (by omega) (by omega)).mp ((inf_i hS_rb rfl).symm.trans hx1)
  refine lv_aload_n hx hb dX6_read_27 rfl (lv_at hl 0 rfl) ?_
  refine lv_iconst (v := 0) hx hb dX6_read_28 (by decide) ?_
  refine pl_put (ci := 6) (v := .int 0) (ty := .boolean) (C := RX6) (T := TX6) (N := 10) (fs' := [.int fa, .int pl, .ref rn, .ref rb, .ref rt, .int (nI ln), .int 0, .int tk, .int (nI ta), .int (nI te)]) hx hb hT iX6 tyX6 tyX6_ok nmX6 hown hK hW hT_o.1 hS_o rfl 6 (by decide) w149 rfl (by decide +kernel) rfl rfl (Nat.le_of_ble_eq_true rfl) rfl dX6_read_29 (fun H locs S_30 e1 hW => ?_)
  have hTy := hTy.u6 e1 hT_o ⟨fa, pl, rn, rb, rt, ln, 0, tk, ta, te, rfl, hT_rn, hT_rb, hT_rt, (by omega), (by omega), (by omega)⟩
  have hS_rt := un e1 hT_rt hT_o (by decide) hS_rt
  have hS_rn := un e1 hT_rn hT_o (by decide) hS_rn
  have hS_rb := un e1 hT_rb hT_o (by decide) hS_rb
  have hFr := uf hFr e1 hT_o (by decide) (by decide)
  have hS_o := us e1
  refine lv_aload_n hx hb dX6_read_32 rfl (lv_at hl 0 rfl) ?_
  refine lv_iconst (v := 0) hx hb dX6_read_33 (by decide) ?_
  refine pl_put (ci := 6) (v := .int 0) (ty := .int) (C := RX6) (T := TX6) (N := 10) (fs' := [.int 0, .int pl, .ref rn, .ref rb, .ref rt, .int (nI ln), .int 0, .int tk, .int (nI ta), .int (nI te)]) hx hb hT iX6 tyX6 tyX6_ok nmX6 hown hK hW hT_o.1 hS_o rfl 0 (by decide) w139 rfl (by decide +kernel) rfl rfl (Nat.le_of_ble_eq_true rfl) rfl dX6_read_34 (fun H locs S_31 e1 hW => ?_)
  have hTy := hTy.u6 e1 hT_o ⟨0, pl, rn, rb, rt, ln, 0, tk, ta, te, rfl, hT_rn, hT_rb, hT_rt, (by omega), (by omega), (by omega)⟩
  have hS_rt := un e1 hT_rt hT_o (by decide) hS_rt
  have hS_rn := un e1 hT_rn hT_o (by decide) hS_rn
  have hS_rb := un e1 hT_rb hT_o (by decide) hS_rb
  have hFr := uf hFr e1 hT_o (by decide) (by decide)
  have hS_o := us e1
  refine lv_aload_n hx hb dX6_read_37 rfl (lv_at hl 0 rfl) ?_
  refine lv_iconst (v := (-1)) hx hb dX6_read_38 (by decide) ?_
  refine pl_put (ci := 6) (v := .int (-1)) (ty := .int) (C := RX6) (T := TX6) (N := 10) (fs' := [.int 0, .int (-1), .ref rn, .ref rb, .ref rt, .int (nI ln), .int 0, .int tk, .int (nI ta), .int (nI te)]) hx hb hT iX6 tyX6 tyX6_ok nmX6 hown hK hW hT_o.1 hS_o rfl 1 (by decide) w141 rfl (by decide +kernel) rfl rfl (Nat.le_of_ble_eq_true rfl) rfl dX6_read_39 (fun H locs S_32 e1 hW => ?_)
  have hTy := hTy.u6 e1 hT_o ⟨0, (-1), rn, rb, rt, ln, 0, tk, ta, te, rfl, hT_rn, hT_rb, hT_rt, (by omega), (by omega), (by omega)⟩
  have hS_rt := un e1 hT_rt hT_o (by decide) hS_rt
  have hS_rn := un e1 hT_rn hT_o (by decide) hS_rn
  have hS_rb := un e1 hT_rb hT_o (by decide) hS_rb
  have hFr := uf hFr e1 hT_o (by decide) (by decide)
  have hS_o := us e1
  refine lv_aload_n hx hb dX6_read_42 rfl (lv_at hl 0 rfl) ?_
  refine lv_iconst (v := 0) hx hb dX6_read_43 (by decide) ?_
  refine pl_put (ci := 6) (v := .int 0) (ty := .int) (C := RX6) (T := TX6) (N := 10) (fs' := [.int 0, .int (-1), .ref rn, .ref rb, .ref rt, .int (nI ln), .int 0, .int tk, .int (nI ta), .int 0]) hx hb hT iX6 tyX6 tyX6_ok nmX6 hown hK hW hT_o.1 hS_o rfl 9 (by decide) w152 rfl (by decide +kernel) rfl rfl (Nat.le_of_ble_eq_true rfl) rfl dX6_read_44 (fun H locs S_33 e1 hW => ?_)
  have hTy := hTy.u6 e1 hT_o ⟨0, (-1), rn, rb, rt, ln, 0, tk, ta, 0, rfl, hT_rn, hT_rb, hT_rt, (by omega), (by omega), (by omega)⟩
  have hS_rt := un e1 hT_rt hT_o (by decide) hS_rt
  have hS_rn := un e1 hT_rn hT_o (by decide) hS_rn
  have hS_rb := un e1 hT_rb hT_o (by decide) hS_rb
  have hFr := uf hFr e1 hT_o (by decide) (by decide)
  have hS_o := us e1
  refine lv_aload_n hx hb dX6_read_47 rfl (lv_at hl 0 rfl) ?_
  refine pl_callv (va_runV (As := []) (rest := []) ⟨hx, hb, hml, hown, hT⟩ (q_next l dC dI cy L kap pr ad S_33 H.size o hTy hT_o g 0 (-1) rn rb rt ln 0 tk ta 0 ⟨hS_o, af_i hS_rt, by omega, by omega, by omega⟩ (by omega)) (cwV 0 hT (gV w420 w422 ws0 w3 w423) rfl rfl rfl (by decide +kernel) ⟨(Nat.le_of_ble_eq_true rfl), (Nat.le_of_ble_eq_true rfl)⟩) ⟨pcS.blind, pl_recv hK hW hT_o.1 hS_o rfl, pcS.pre hW.1 hK hW.2.1 hN hSTR hW.2.2⟩ rfl rfl hl.1 rfl (lv_room (Nat.le_of_ble_eq_true rfl)) dX6_read_48 ⟨(Nat.le_of_ble_eq_true rfl), (Nat.le_of_ble_eq_true rfl)⟩) hW hA0 hA (fun S_34 H locs hrel hW => ?_)
  obtain ⟨hTy, hF1, hx1⟩ := hrel
  have hFr := hFr.tr hF1 (by decide)
  have hS_rt := hF1.at hT_rt (by decide) hS_rt
  have hS_rn := hF1.at hT_rn (by decide) hS_rn
  have hS_rb := hF1.at hT_rb (by decide) hS_rb
  have htb_ := tke_b (g := g) (n := ln) (p := 0) (by omega) (by omega)
  have hsg_ := SK_ge (g := g) (n := ln) (i := 0)
  obtain ⟨hS_o, hT_rn, hT_rb, hT_rt, hQg_, hen_, hta_, hte_⟩ := RQk hTy hT_o hx1
  obtain ⟨f_35, hS_rt⟩ := hTy.k27 hT_rt
  have eg_ := hQg_.symm.trans (af_i hS_rt)
  subst eg_
  refine lv_iconst (v := 0) hx hb dX6_read_51 (by decide) ?_
  refine lv_istore_n (lv' := [(2, .int 0), (0, .ref o), (1, .int (nI ln))]) hx hb dX6_read_52 rfl hl (by decide) rfl (fun ls hl => ?_)
  have loop : ∀ (fuel : Nat) (i : Nat) (SS : Nat → va_E) (H : Heap) (locs : List Loc) (ls : Array Slot), 901 - i < fuel → (i ≤ 900) → (RIL SS o g ln rn rb rt i) → Ty cy L kap pr SS → Fr kap [0, 3, 6, 20, 21, 22, 23, 24, 25, 26] S SS → Fr kap [0, 3, 6, 20, 21, 22, 23, 24, 25, 26] S_34 SS → PW dC dI L (AL L s.heap.size) s.heap SS H locs → lv_has ls 3 [(2, .int (nI i)), (0, .ref o), (1, .int (nI ln))] → W p l e (headSpec (wT yX6_read cX6_read 3 none) { frames := 9, cells := 0, slots := 0, locals := 191 }).room s m [.ref o, .int (nI ln)].toArray below meth c H locs 0 0 (MQ below (va_Qv (fun S' => Ty cy L kap pr S' ∧ Fr kap [0, 3, 6, 20, 21, 22, 23, 24, 25, 26] S S' ∧ (∃ (fa' pl' mt' tk' : Int32) (ta' te' : Nat), RQ S' o g fa' pl' rn rb rt ln mt' tk' ta' te' ∧ RDX S' g ln rb fa' pl')) (fun S' t => pB dC dI (AL L s.heap.size) (va_pl L S') (cyT cy) t) (AL L s.heap.size)) [.ref o, .int (nI ln)].toArray s 0 0 (AL L s.heap.size)) (F0 m 53 ls []) := by
    intro fuel
    induction fuel with
    | zero => intro i SS H locs ls h; exact absurd h (Nat.not_lt_zero _)
    | succ fu53 ih53 =>
      intro i S_36 H locs ls hm53 hb_i hIL hTy hFr hFl53 hW hl
      have hS_rt := hFl53.at hT_rt (by decide) hS_rt
      obtain ⟨fa, pl, mt, tk, ta, te, hQ, hI⟩ := hIL
      obtain ⟨hS_o, hT_rn, hT_rb, hT_rt, hQg_, hen_, hta_, hte_⟩ := RQk hTy hT_o hQ
      obtain ⟨f_37, hS_rt⟩ := hTy.k27 hT_rt
      have eg_ := hQg_.symm.trans (af_i hS_rt)
      subst eg_
      refine lv_iload_n hx hb dX6_read_53 rfl (lv_at hl 0 rfl) ?_
      refine lv_sipush (v := 900) hx hb dX6_read_54 (by decide) ?_
      refine lv_icmp_ge (tgt := 84) hx hb dX6_read_57 (by decide) (fun c_57 => ?_) (fun c_57 => ?_)
      · have c_57 : 900 ≤ i := (nI_leI (a := 900) (b := i) (by omega) (by omega)).mp c_57
        exact W.vret hx hb hr (fun t ht h9 => ⟨⟨S_36, rfl, ⟨hTy, hFr, ⟨_, _, _, _, _, _, ⟨hS_o, af_i hS_rt, by omega, by omega, by omega⟩, RIC_e hI hb_ln (Or.inl (by omega))⟩⟩, by rw [ht]; exact hW.1, va_K.moved h9.alike hK, hW.2.1⟩, hW.2.2.F ht⟩) hW.2.2.2.2 dX6_read_84
      · have c_57 : ¬ (900 ≤ i) := fun hh9 => c_57 ((nI_leI (a := 900) (b := i) (by omega) (by omega)).mpr hh9)
        refine lv_aload_n hx hb dX6_read_60 rfl (lv_at hl 1 rfl) ?_
        refine pl_get (ci := 6) (v := .int fa) (C := RX6) (T := TX6) (N := 10) hx hb hT iX6 hown hK hW hT_o.1 hS_o rfl 0 (by decide) w139 rfl dX6_read_61 ?_
        refine lv_if_ne (tgt := 84) hx hb dX6_read_64 (by decide) (fun c_64 => ?_) (fun c_64 => ?_)
        · exact W.vret hx hb hr (fun t ht h9 => ⟨⟨S_36, rfl, ⟨hTy, hFr, ⟨_, _, _, _, _, _, ⟨hS_o, af_i hS_rt, by omega, by omega, by omega⟩, RIC_e hI hb_ln (Or.inr (Or.inl c_64))⟩⟩, by rw [ht]; exact hW.1, va_K.moved h9.alike hK, hW.2.1⟩, hW.2.2.F ht⟩) hW.2.2.2.2 dX6_read_84
        · refine lv_aload_n hx hb dX6_read_67 rfl (lv_at hl 1 rfl) ?_
          refine pl_get (ci := 6) (v := .int tk) (C := RX6) (T := TX6) (N := 10) hx hb hT iX6 hown hK hW hT_o.1 hS_o rfl 7 (by decide) w150 rfl dX6_read_68 ?_
          refine lv_if_eq (tgt := 84) hx hb dX6_read_71 (by decide) (fun c_71 => ?_) (fun c_71 => ?_)
          · exact W.vret hx hb hr (fun t ht h9 => ⟨⟨S_36, rfl, ⟨hTy, hFr, ⟨_, _, _, _, _, _, ⟨hS_o, af_i hS_rt, by omega, by omega, by omega⟩, RIC_e hI hb_ln (Or.inr (Or.inr c_71))⟩⟩, by rw [ht]; exact hW.1, va_K.moved h9.alike hK, hW.2.1⟩, hW.2.2.F ht⟩) hW.2.2.2.2 dX6_read_84
          · obtain ⟨hpl, sp, gd, df, np, nk, mn, kf, md, hsp, hgd, hisp, hNq, hBq, hmd, htk, hta, hte, hTX⟩ := RIC_g hI c_64
            subst htk hta hte
            have hs_ : SK g ln sp < ln := tkc_z (fun z => c_71 (by rw [z]; rfl))
            refine lv_aload_n hx hb dX6_read_74 rfl (lv_at hl 1 rfl) ?_
            refine pl_callv (va_runV (As := []) (rest := []) ⟨hx, hb, hml, hown, hT⟩ (q_readLine l dC dI cy L kap pr ad S_36 H.size o hTy hT_o g fa pl rn rb rt ln mt sp ⟨hS_o, af_i hS_rt, by omega, by omega, by omega⟩ (by omega) df np nk hNq mn kf hBq hg md hmd) (cwV 0 hT (gV w492 w494 ws3 w3 w495) rfl rfl rfl (by decide +kernel) ⟨(Nat.le_of_ble_eq_true rfl), (Nat.le_of_ble_eq_true rfl)⟩) ⟨pcS.blind, pl_recv hK hW hT_o.1 hS_o rfl, pcS.pre hW.1 hK hW.2.1 hN hSTR hW.2.2⟩ rfl rfl hl.1 rfl (lv_room (Nat.le_of_ble_eq_true rfl)) dX6_read_75 ⟨(Nat.le_of_ble_eq_true rfl), (Nat.le_of_ble_eq_true rfl)⟩) hW hA0 hA (fun S_38 H locs hrel hW => ?_)
            obtain ⟨hTy, hF1, hx1⟩ := hrel
            have hFr := hFr.tr hF1 (by decide)
            have hFl53 := hFl53.tr hF1 (by decide)
            have hS_rt := hF1.at hT_rt (by decide) hS_rt
            obtain ⟨fa1, pl1, mt1, tk1, ta1, te1, hQ1, hE1, hO1⟩ := hx1
            obtain ⟨hS_o, hT_rn, hT_rb, hT_rt, hQg_, hen_, hta_, hte_⟩ := RQk hTy hT_o hQ1
            obtain ⟨f_39, hS_rt⟩ := hTy.k27 hT_rt
            have eg_ := hQg_.symm.trans (af_i hS_rt)
            subst eg_
            have hIs := RIC_s (S1 := S_38) (rn := rn) (rb := rb) (i := i) c_64 hpl hb_ln hs_ hsp hgd hisp hTX hE1 hO1
            refine lv_iinc (v := nI (i + 1)) (lv' := [(2, .int (nI (i + 1))), (0, .ref o), (1, .int (nI ln))]) hx hb dX6_read_78 hl (k := 0) rfl (nI_add (i) 1) (by decide) rfl (fun ls hl => ?_)
            refine lv_goto (tgt := 53) hx hb dX6_read_81 (by decide) ?_
            exact ih53 (i + 1) _ _ _ ls (by omega) (by omega) ⟨_, _, _, _, _, _, ⟨hS_o, af_i hS_rt, by omega, by omega, by omega⟩, hIs⟩ hTy hFr hFl53 hW (lv_sub hl [0, 1, 2] rfl)
  exact loop ((901 - 0) + 1) 0 _ _ _ ls (Nat.lt_succ_self _) (by omega) ⟨_, _, _, _, _, _, ⟨hS_o, af_i hS_rt, by omega, by omega, by omega⟩, RIC_0 (NQ_0 (inf_i hS_rn rfl) (inf_i hS_rn rfl)) (BQ_0 (inf_i hS_rb rfl))⟩ hTy hFr Fr.rf hW (lv_sub hl [0, 1, 2] rfl)

