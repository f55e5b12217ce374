theorem bk_ad {f f1 : Nat → Int32} {mn : Nat} {kf : Nat → Bool} {x : Int32} (h : ∀ t, t < mn → f t = (if kf t = true then 1 else 0)) (e : f1 = upd f (nI mn).toNatClampNeg x) (hx : x = 0) (hv : mn < 40) : ∀ t, t < mn + 1 → f1 t = (if ub kf mn false t = true then 1 else 0) := fun t ht => by
  rw [nI_clamp (by omega)] at e
  subst e hx
  unfold ub
  by_cases q : t = mn
  · rw [if_pos q, q, pk_us]
    rfl
  · rw [if_neg q, pk_un q]
    exact h t (by omega)

set_option maxHeartbeats 4000000 in
set_option maxRecDepth 100000 in
theorem q_bappend (l : Launch) (dC : Nat → ClassId) (dI : Nat → Nat → Nat) (cy : Nat → ClassId) (L : List Nat) (kap : Nat → Nat) (pr : Pr) (S : Nat → va_E) (sz : Nat) (rb : Nat) (gv : Nat) (tv : Nat) (x : Int64) (kv : Nat) (hTy : Ty cy L kap pr S) (hT_rb : TK L kap rb 0) (hb_gv : gv < 8) (hb_tv : tv < 8) (hb_kv : kv < 4) (mn : Nat) (kf : Nat → Bool) (hBq : BQ S rb mn kf) (hmn : mn < 40) : Met l yX0_append (wT yX0_append cX0_append 6 none) ({ frames := 0, cells := 0, slots := 0, locals := 0 }) (pcN dC dI [.ref rb, .int (nI gv), .int (nI tv), .long x, .int (nI kv)] sz (va_pl L S) (cyT cy) NLs []) (va_Qv (fun S' => Ty cy L kap pr S' ∧ Fr kap [0, 20, 21, 22, 23] S S' ∧ (BQ S' rb (mn + 1) (ub kf mn false))) (fun S' t => pB dC dI (AL L sz) (va_pl L S') (cyT cy) t) (AL L sz)) 0 0 (AL L sz) := by
  refine Met.ofW (cc := cX0_append) (maxL := 6) (ret := none) (by decide) rfl ?_
  intro p e s m args below meth c s₁ B hml hv
  obtain ⟨rfl, hsz, hP, hK, hD0, hN, -⟩ := hv
  have hx := B.exec
  have hb := B.bytes
  have hr := B.returns
  have hT : ∀ wd ∈ TB, wd.before [.ref rb, .int (nI gv), .int (nI tv), .long x, .int (nI kv)].toArray s = true := fun wd h => atoms_spec (ws := wT yX0_append cX0_append 6 none) B.pre wd (List.mem_cons_of_mem _ h)
  have hown : s.vm.findClass RX0 = some m.cls := findClass_of_methodNamed B.named
  have hlocks := B.notSynchronized
  subst hsz
  have hW : PW dC dI L (AL L s.heap.size) s.heap S s.heap [] := ⟨hP, pl_self hD0, va_S.rf⟩
  have hA0 : ∀ q, q ∈ L → AL L s.heap.size q := fun _ h => Or.inl h
  have hA : ∀ q, s.heap.size ≤ q → AL L s.heap.size q := fun _ h => Or.inr h
  have hFr : Fr kap [0, 20, 21, 22, 23] S S := Fr.rf
  have hl := lv_entry ([.ref rb, .int (nI gv), .int (nI tv), .long x, .int (nI kv)]) (n := 6) (Nat.le_of_ble_eq_true rfl)
  rw [lg_entry_eq]
  generalize (lg_sl ([.ref rb, .int (nI gv), .int (nI tv), .long x, .int (nI kv)]) ++ List.replicate (6 - (lg_sl ([.ref rb, .int (nI gv), .int (nI tv), .long x, .int (nI kv)])).length) Slot.unset).toArray = ls at hl ⊢
  have hl : lv_has ls 6 [(0, .ref rb), (1, .int (nI gv)), (2, .int (nI tv)), (3, .long x), (5, .int (nI kv))] := hl
  obtain ⟨x_1, x_2, x_3, x_4, x_5, x_6, x_7, x_8, hS_rb, hT_x_1, hT_x_2, hT_x_3, hT_x_4, hT_x_5, hT_x_6, hb_x_7⟩ := hTy.k0 hT_rb
  obtain ⟨f_9, hS_x_5⟩ := hTy.k23 hT_x_5
  obtain ⟨hb6_, hb40_, hbk_⟩ := hBq
  obtain rfl : mn = x_7 := (nI_eq (by omega) (by omega)).mp (hb6_.symm.trans (inf_i hS_rb rfl))
  rw [fld_i hS_rb rfl hS_x_5] at hbk_
  refine lv_aload_n hx hb dX0_append_0 rfl (lv_at hl 0 rfl) ?_
  refine pl_get (ci := 0) (v := .int (nI mn)) (C := RX0) (T := TX0) (N := 8) hx hb hT iX0 hown hK hW hT_rb.1 hS_rb rfl 6 (by decide) w112 rfl dX0_append_1 ?_
  refine lv_bipush (v := 40) hx hb dX0_append_4 (by decide) ?_
  refine lv_icmp_lt (tgt := 10) hx hb dX0_append_6 (by decide) (fun c_6 => ?_) (fun c_6 => ?_)
  · have c_6 : mn < 40 := (nI_ltI (a := mn) (b := 40) (by omega) (by omega)).mp c_6
    refine lv_aload_n hx hb dX0_append_10 rfl (lv_at hl 0 rfl) ?_
    refine pl_get (ci := 0) (v := .ref x_1) (C := RX0) (T := TX0) (N := 8) hx hb hT iX0 hown hK hW hT_rb.1 hS_rb rfl 0 (by decide) w88 rfl dX0_append_11 ?_
    refine lv_aload_n hx hb dX0_append_14 rfl (lv_at hl 0 rfl) ?_
    refine pl_get (ci := 0) (v := .int (nI mn)) (C := RX0) (T := TX0) (N := 8) hx hb hT iX0 hown hK hW hT_rb.1 hS_rb rfl 6 (by decide) w112 rfl dX0_append_15 ?_
    refine lv_iload_n hx hb dX0_append_18 rfl (lv_at hl 1 rfl) ?_
    obtain ⟨f_10, hS_x_1, hi_f_10⟩ := hTy.k20 hT_x_1
    refine pl_iast hx hb hK hW hT_x_1.1 hS_x_1 (vp_in_nI (n := mn) (N := 40) (by omega) (by omega)) dX0_append_19 (fun H locs f_12 S_11 ef_f_12 e1 hW => ?_)
    have hi_f_12 := inv_up hi_f_10 ef_f_12 ⟨gv, by omega, rfl⟩
    have hTy := hTy.u20 e1 hT_x_1 ⟨f_12, rfl, hi_f_12⟩
    have hS_rb := un e1 hT_rb hT_x_1 (by decide) hS_rb
    have hS_x_5 := un e1 hT_x_5 hT_x_1 (by decide) hS_x_5
    have hFr := uf hFr e1 hT_x_1 (by decide) (by decide)
    have hS_x_1 := us e1
    refine lv_aload_n hx hb dX0_append_20 rfl (lv_at hl 0 rfl) ?_
    refine pl_get (ci := 0) (v := .ref x_2) (C := RX0) (T := TX0) (N := 8) hx hb hT iX0 hown hK hW hT_rb.1 hS_rb rfl 1 (by decide) w92 rfl dX0_append_21 ?_
    refine lv_aload_n hx hb dX0_append_24 rfl (lv_at hl 0 rfl) ?_
    refine pl_get (ci := 0) (v := .int (nI mn)) (C := RX0) (T := TX0) (N := 8) hx hb hT iX0 hown hK hW hT_rb.1 hS_rb rfl 6 (by decide) w112 rfl dX0_append_25 ?_
    refine lv_iload_n hx hb dX0_append_28 rfl (lv_at hl 2 rfl) ?_
    obtain ⟨f_13, hS_x_2, hi_f_13⟩ := hTy.k20 hT_x_2
    refine pl_iast hx hb hK hW hT_x_2.1 hS_x_2 (vp_in_nI (n := mn) (N := 40) (by omega) (by omega)) dX0_append_29 (fun H locs f_15 S_14 ef_f_15 e1 hW => ?_)
    have hi_f_15 := inv_up hi_f_13 ef_f_15 ⟨tv, by omega, rfl⟩
    have hTy := hTy.u20 e1 hT_x_2 ⟨f_15, rfl, hi_f_15⟩
    have hS_rb := un e1 hT_rb hT_x_2 (by decide) hS_rb
    have hS_x_5 := un e1 hT_x_5 hT_x_2 (by decide) hS_x_5
    have hFr := uf hFr e1 hT_x_2 (by decide) (by decide)
    have hS_x_2 := us e1
    refine lv_aload_n hx hb dX0_append_30 rfl (lv_at hl 0 rfl) ?_
    refine pl_get (ci := 0) (v := .ref x_4) (C := RX0) (T := TX0) (N := 8) hx hb hT iX0 hown hK hW hT_rb.1 hS_rb rfl 3 (by decide) w100 rfl dX0_append_31 ?_
    refine lv_aload_n hx hb dX0_append_34 rfl (lv_at hl 0 rfl) ?_
    refine pl_get (ci := 0) (v := .int (nI mn)) (C := RX0) (T := TX0) (N := 8) hx hb hT iX0 hown hK hW hT_rb.1 hS_rb rfl 6 (by decide) w112 rfl dX0_append_35 ?_
    refine lv_lload_n hx hb dX0_append_38 rfl (lv_at hl 3 rfl) ?_
    obtain ⟨f_16, hS_x_4⟩ := hTy.k22 hT_x_4
    refine pl_last hx hb hK hW hT_x_4.1 hS_x_4 (vp_in_nI (n := mn) (N := 40) (by omega) (by omega)) dX0_append_39 (fun H locs f_18 S_17 ef_f_18 e1 hW => ?_)
    have hTy := hTy.u22 e1 hT_x_4 ⟨f_18, rfl⟩
    have hS_rb := un e1 hT_rb hT_x_4 (by decide) hS_rb
    have hS_x_5 := un e1 hT_x_5 hT_x_4 (by decide) hS_x_5
    have hS_x_2 := un e1 hT_x_2 hT_x_4 (by decide) hS_x_2
    have hFr := uf hFr e1 hT_x_4 (by decide) (by decide)
    have hS_x_4 := us e1
    refine lv_aload_n hx hb dX0_append_40 rfl (lv_at hl 0 rfl) ?_
    refine pl_get (ci := 0) (v := .ref x_3) (C := RX0) (T := TX0) (N := 8) hx hb hT iX0 hown hK hW hT_rb.1 hS_rb rfl 2 (by decide) w96 rfl dX0_append_41 ?_
    refine lv_aload_n hx hb dX0_append_44 rfl (lv_at hl 0 rfl) ?_
    refine pl_get (ci := 0) (v := .int (nI mn)) (C := RX0) (T := TX0) (N := 8) hx hb hT iX0 hown hK hW hT_rb.1 hS_rb rfl 6 (by decide) w112 rfl dX0_append_45 ?_
    refine lv_iload hx hb dX0_append_48 (lv_at hl 4 rfl) ?_
    obtain ⟨f_19, hS_x_3, hi_f_19⟩ := hTy.k21 hT_x_3
    refine pl_iast hx hb hK hW hT_x_3.1 hS_x_3 (vp_in_nI (n := mn) (N := 40) (by omega) (by omega)) dX0_append_50 (fun H locs f_21 S_20 ef_f_21 e1 hW => ?_)
    have hi_f_21 := inv_up hi_f_19 ef_f_21 ⟨kv, by omega, rfl⟩
    have hTy := hTy.u21 e1 hT_x_3 ⟨f_21, rfl, hi_f_21⟩
    have hS_rb := un e1 hT_rb hT_x_3 (by decide) hS_rb
    have hS_x_5 := un e1 hT_x_5 hT_x_3 (by decide) hS_x_5
    have hS_x_2 := un e1 hT_x_2 hT_x_3 (by decide) hS_x_2
    have hS_x_4 := un e1 hT_x_4 hT_x_3 (by decide) hS_x_4
    have hFr := uf hFr e1 hT_x_3 (by decide) (by decide)
    have hS_x_3 := us e1
    refine lv_aload_n hx hb dX0_append_51 rfl (lv_at hl 0 rfl) ?_
    refine pl_get (ci := 0) (v := .ref x_5) (C := RX0) (T := TX0) (N := 8) hx hb hT iX0 hown hK hW hT_rb.1 hS_rb rfl 4 (by decide) w104 rfl dX0_append_52 ?_
    refine lv_aload_n hx hb dX0_append_55 rfl (lv_at hl 0 rfl) ?_
    refine pl_get (ci := 0) (v := .int (nI mn)) (C := RX0) (T := TX0) (N := 8) hx hb hT iX0 hown hK hW hT_rb.1 hS_rb rfl 6 (by decide) w112 rfl dX0_append_56 ?_
    refine lv_iconst (v := 0) hx hb dX0_append_59 (by decide) ?_
    refine pl_zast hx hb hK hW hT_x_5.1 hS_x_5 (vp_in_nI (n := mn) (N := 40) (by omega) (by omega)) dX0_append_60 (fun H locs f_23 S_22 ef_f_23 e1 hW => ?_)
    have hTy := hTy.u23 e1 hT_x_5 ⟨f_23, rfl⟩
    have hS_rb := un e1 hT_rb hT_x_5 (by decide) hS_rb
    have hS_x_2 := un e1 hT_x_2 hT_x_5 (by decide) hS_x_2
    have hS_x_4 := un e1 hT_x_4 hT_x_5 (by decide) hS_x_4
    have hS_x_3 := un e1 hT_x_3 hT_x_5 (by decide) hS_x_3
    have hFr := uf hFr e1 hT_x_5 (by decide) (by decide)
    have hS_x_5 := us e1
    have hbk_ := bk_ad hbk_ ef_f_23 rfl (by omega)
    refine lv_aload_n hx hb dX0_append_61 rfl (lv_at hl 0 rfl) ?_
    refine lv_dup hx hb dX0_append_62 rfl ?_
    refine pl_get (ci := 0) (v := .int (nI mn)) (C := RX0) (T := TX0) (N := 8) hx hb hT iX0 hown hK hW hT_rb.1 hS_rb rfl 6 (by decide) w112 rfl dX0_append_63 ?_
    refine lv_iconst (v := 1) hx hb dX0_append_66 (by decide) ?_
    refine lv_iadd hx hb dX0_append_67 ?_
    refine lv_topi (fun z_24 ez_24 => ?_)
    obtain rfl : z_24 = nI (mn + 1) := ez_24.trans (nI_add (mn) (1))
    refine pl_put (ci := 0) (v := .int (nI (mn + 1))) (ty := .int) (C := RX0) (T := TX0) (N := 8) (fs' := [.ref x_1, .ref x_2, .ref x_3, .ref x_4, .ref x_5, .ref x_6, .int (nI (mn + 1)), .int x_8]) hx hb hT iX0 tyX0 tyX0_ok nmX0 hown hK hW hT_rb.1 hS_rb rfl 6 (by decide) w112 rfl (by decide +kernel) rfl rfl (Nat.le_of_ble_eq_true rfl) rfl dX0_append_68 (fun H locs S_25 e1 hW => ?_)
    have hTy := hTy.u0 e1 hT_rb ⟨x_1, x_2, x_3, x_4, x_5, x_6, mn + 1, x_8, rfl, hT_x_1, hT_x_2, hT_x_3, hT_x_4, hT_x_5, hT_x_6, (by omega)⟩
    have hS_x_5 := un e1 hT_x_5 hT_rb (by decide) hS_x_5
    have hS_x_2 := un e1 hT_x_2 hT_rb (by decide) hS_x_2
    have hS_x_4 := un e1 hT_x_4 hT_rb (by decide) hS_x_4
    have hS_x_3 := un e1 hT_x_3 hT_rb (by decide) hS_x_3
    have hFr := uf hFr e1 hT_rb (by decide) (by decide)
    have hS_rb := us e1
    exact W.vret hx hb hr (fun t ht h9 => ⟨⟨S_25, rfl, ⟨hTy, hFr, ⟨inf_i hS_rb rfl, by omega, by rw [fld_i hS_rb rfl hS_x_5]; exact hbk_⟩⟩, by rw [ht]; exact hW.1, va_K.moved h9.alike hK, hW.2.1⟩, hW.2.2.F ht⟩) hW.2.2.2.2 dX0_append_71
  · have c_6 : ¬ (mn < 40) := fun hh9 => c_6 ((nI_ltI (a := mn) (b := 40) (by omega) (by omega)).mpr hh9)
    exfalso; omega

set_option maxHeartbeats 4000000 in
set_option maxRecDepth 100000 in
theorem q_readTrade (l : Launch) (dC : Nat → ClassId) (dI : Nat → Nat → Nat) (cy : Nat → ClassId) (L : List Nat) (kap : Nat → Nat) (pr : Pr) (ad : (Nat → Nat) × (Nat → Nat)) (S : Nat → va_E) (sz : Nat) (o : Nat) (hTy : Ty cy L kap pr S) (hT_o : TK L kap o 6) (g : Nat → Int32) (fa : Int32) (pl : Int32) (rn : Nat) (rb : Nat) (rt : Nat) (en : Nat) (mt : Int32) (sp : Nat) (hQ : RQ S o g fa pl rn rb rt en mt (nI (tkc g en sp)) (SK g en sp) (tke g en sp)) (hp : sp ≤ en) (df : Nat → Nat × Nat) (np : Nat) (nk : Nat) (hNq : NQ S g df rn np nk) (mn : Nat) (kf : Nat → Bool) (hBq : BQ S rb mn kf) : Met l yX6_readTrade (wT yX6_readTrade cX6_readTrade 5 none) ({ frames := 7, cells := 0, slots := 0, locals := 147 }) (pcS dC dI [.ref o] sz L S (cyT cy) NLs ad) (va_Qv (fun S' => Ty cy L kap pr S' ∧ Fr kap [0, 6, 20, 21, 22, 23] S S' ∧ (∃ fa' pl', RQ S' o g fa' pl' rn rb rt en mt (nI (tkc g en (tke g en (tke g en (tke g en (tke g en (tke g en sp))))))) (SK g en (tke g en (tke g en (tke g en (tke g en (tke g en sp)))))) (tke g en (tke g en (tke g en (tke g en (tke g en (tke g en sp)))))) ∧ ERR fa pl (fe (FU (decide (mn = 40)) (SK g en sp)) (E2 g en df np nk 2 (tke g en sp))).1 (fe (FU (decide (mn = 40)) (SK g en sp)) (E2 g en df np nk 2 (tke g en sp))).2 fa' pl' ∧ (fa' = 0 → BQ S' rb (mn + 1) (ub kf mn false)))) (fun S' t => pB dC dI (AL L sz) (va_pl L S') (cyT cy) t) (AL L sz)) 0 0 (AL L sz) := by
  refine Met.ofW (cc := cX6_readTrade) (maxL := 5) (ret := none) (by decide) rfl ?_
  intro p e s m args below meth c s₁ B hml hv
  obtain ⟨rfl, hsz, hP, hK, hD0, hN, hSTR⟩ := hv
  have hx := B.exec
  have hb := B.bytes
  have hr := B.returns
  have hT : ∀ wd ∈ TB, wd.before [.ref o].toArray s = true := fun wd h => atoms_spec (ws := wT yX6_readTrade cX6_readTrade 5 none) B.pre wd (List.mem_cons_of_mem _ h)
  have hown : s.vm.findClass RX6 = some m.cls := findClass_of_methodNamed B.named
  have hlocks := B.notSynchronized
  subst hsz
  have hW : PW dC dI L (AL L s.heap.size) s.heap S s.heap [] := ⟨hP, pl_self hD0, va_S.rf⟩
  have hA0 : ∀ q, q ∈ L → AL L s.heap.size q := fun _ h => Or.inl h
  have hA : ∀ q, s.heap.size ≤ q → AL L s.heap.size q := fun _ h => Or.inr h
  have hFr : Fr kap [0, 6, 20, 21, 22, 23] S S := Fr.rf
  have hl := lv_entry ([.ref o]) (n := 5) (Nat.le_of_ble_eq_true rfl)
  rw [lg_entry_eq]
  generalize (lg_sl ([.ref o]) ++ List.replicate (5 - (lg_sl ([.ref o])).length) Slot.unset).toArray = ls at hl ⊢
  have hl : lv_has ls 5 [(0, .ref o)] := hl
  obtain ⟨hS_o, hT_rn, hT_rb, hT_rt, hQg_, hen_, hta_, hte_⟩ := RQk hTy hT_o hQ
  obtain ⟨f_1, hS_rt⟩ := hTy.k27 hT_rt
  have eg_ := hQg_.symm.trans (af_i hS_rt)
  subst eg_
  have htkb_ := tkc_le (g := g) (n := en) (p := sp)
  have htb_ := tke_b (g := g) (n := en) (p := sp) (by omega) (by omega)
  obtain ⟨x_2, x_3, x_4, x_5, hS_rn, hT_x_2, hT_x_3, hb_x_4, hb_x_5⟩ := hTy.k3 hT_rn
  obtain ⟨hn2_, hn3_, hnp_, hnk_, hN0, hN8⟩ := hNq
  obtain rfl : np = x_4 := (nI_eq (by omega) (by omega)).mp (hn2_.symm.trans (inf_i hS_rn rfl))
  obtain rfl : nk = x_5 := (nI_eq (by omega) (by omega)).mp (hn3_.symm.trans (inf_i hS_rn rfl))
  obtain ⟨f_6, hS_x_2⟩ := hTy.k25 hT_x_2
  obtain ⟨f_7, hS_x_3, hi_f_7⟩ := hTy.k26 hT_x_3
  rw [fld_i hS_rn rfl hS_x_2, fld_i hS_rn rfl hS_x_3] at hN0
  rw [fld_i hS_rn rfl hS_x_2, fld_i hS_rn rfl hS_x_3] at hN8
  obtain ⟨x_8, x_9, x_10, x_11, x_12, x_13, x_14, x_15, hS_rb, hT_x_8, hT_x_9, hT_x_10, hT_x_11, hT_x_12, hT_x_13, hb_x_14⟩ := hTy.k0 hT_rb
  obtain ⟨f_16, hS_x_12⟩ := hTy.k23 hT_x_12
  obtain ⟨hb6_, hb40_, hbk_⟩ := hBq
  obtain rfl : mn = x_14 := (nI_eq (by omega) (by omega)).mp (hb6_.symm.trans (inf_i hS_rb rfl))
  rw [fld_i hS_rb rfl hS_x_12] at hbk_
  have htb1_ := tke_b (g := g) (n := en) (p := tke g en sp) (by omega) (by omega)
  have htb2_ := tke_b (g := g) (n := en) (p := tke g en (tke g en sp)) (by omega) (by omega)
  have htb3_ := tke_b (g := g) (n := en) (p := tke g en (tke g en (tke g en sp))) (by omega) (by omega)
  have htb4_ := tke_b (g := g) (n := en) (p := tke g en (tke g en (tke g en (tke g en sp)))) (by omega) (by omega)
  refine lv_aload_n hx hb dX6_readTrade_0 rfl (lv_at hl 0 rfl) ?_
  refine pl_get (ci := 6) (v := .ref rb) (C := RX6) (T := TX6) (N := 10) hx hb hT iX6 hown hK hW hT_o.1 hS_o rfl 3 (by decide) w145 rfl dX6_readTrade_1 ?_
  refine pl_get (ci := 0) (v := .int (nI mn)) (C := RX0) (T := TX0) (N := 8) hx hb hT iX0 hown hK hW hT_rb.1 hS_rb rfl 6 (by decide) w115 rfl dX6_readTrade_4 ?_
  refine lv_bipush (v := 40) hx hb dX6_readTrade_7 (by decide) ?_
  refine lv_icmp_lt (tgt := 17) hx hb dX6_readTrade_9 (by decide) (fun c_9 => ?_) (fun c_9 => ?_)
  · have c_9 : mn < 40 := (nI_ltI (a := mn) (b := 40) (by omega) (by omega)).mp c_9
    refine lv_aload_n hx hb dX6_readTrade_17 rfl (lv_at hl 0 rfl) ?_
    refine pl_callv (va_runV (As := []) (rest := []) ⟨hx, hb, hml, hown, hT⟩ (q_next l dC dI cy L kap pr ad S s.heap.size o hTy hT_o g fa pl rn rb rt en mt (nI (tkc g en sp)) (SK g en sp) (tke g en sp) ⟨hS_o, af_i hS_rt, by omega, by omega, by omega⟩ (by omega)) (cwV 0 hT (gV w420 w422 ws0 w3 w423) rfl rfl rfl (by decide +kernel) ⟨(Nat.le_of_ble_eq_true rfl), (Nat.le_of_ble_eq_true rfl)⟩) ⟨pcS.blind, pl_recv hK hW hT_o.1 hS_o rfl, pcS.pre hW.1 hK hW.2.1 hN hSTR hW.2.2⟩ rfl rfl hl.1 rfl (lv_room (Nat.le_of_ble_eq_true rfl)) dX6_readTrade_18 ⟨(Nat.le_of_ble_eq_true rfl), (Nat.le_of_ble_eq_true rfl)⟩) hW hA0 hA (fun S_17 H locs hrel hW => ?_)
    obtain ⟨hTy, hF1, hx1⟩ := hrel
    have hFr := hFr.tr hF1 (by decide)
    have hS_rt := hF1.at hT_rt (by decide) hS_rt
    have hS_rn := hF1.at hT_rn (by decide) hS_rn
    have hS_x_2 := hF1.at hT_x_2 (by decide) hS_x_2
    have hS_x_3 := hF1.at hT_x_3 (by decide) hS_x_3
    have hS_rb := hF1.at hT_rb (by decide) hS_rb
    have hS_x_12 := hF1.at hT_x_12 (by decide) hS_x_12
    have htb_ := tke_b (g := g) (n := en) (p := tke g en sp) (by omega) (by omega)
    have hsg_ := SK_ge (g := g) (n := en) (i := tke g en sp)
    obtain ⟨hS_o, hT_rn, hT_rb, hT_rt, hQg_, hen_, hta_, hte_⟩ := RQk hTy hT_o hx1
    obtain ⟨f_18, hS_rt⟩ := hTy.k27 hT_rt
    have eg_ := hQg_.symm.trans (af_i hS_rt)
    subst eg_
    have htkb_ := tkc_le (g := g) (n := en) (p := tke g en sp)
    refine lv_aload_n hx hb dX6_readTrade_21 rfl (lv_at hl 0 rfl) ?_
    refine pl_calli (va_runV (As := []) (rest := []) ⟨hx, hb, hml, hown, hT⟩ (q_knownParty l dC dI cy L kap pr S_17 H.size o hTy hT_o g fa pl rn rb rt en mt (tke g en sp) ⟨hS_o, af_i hS_rt, by omega, by omega, by omega⟩ (by omega) df np nk ⟨inf_i hS_rn rfl, inf_i hS_rn rfl, by omega, by omega, by rw [fld_i hS_rn rfl hS_x_2, fld_i hS_rn rfl hS_x_3]; exact hN0, by rw [fld_i hS_rn rfl hS_x_2, fld_i hS_rn rfl hS_x_3]; exact hN8⟩) (cwV 0 hT (gV w545 w547 ws13 w3 w548) rfl rfl rfl (by decide +kernel) ⟨(Nat.le_of_ble_eq_true rfl), (Nat.le_of_ble_eq_true rfl)⟩) ⟨pcN.blind, pl_recv hK hW hT_o.1 hS_o rfl, pcN.pre hW.1 hK hW.2.1 hN (fun q h => absurd h List.not_mem_nil)⟩ rfl rfl hl.1 rfl (lv_room (Nat.le_of_ble_eq_true rfl)) dX6_readTrade_22 ⟨(Nat.le_of_ble_eq_true rfl), (Nat.le_of_ble_eq_true rfl)⟩) hW hA0 hA (fun r_20 S_19 H locs hrel hW => ?_)
    obtain ⟨hTy, hF1, hx1⟩ := hrel
    have hFr := hFr.tr hF1 (by decide)
    have hS_rn := hF1.at hT_rn (by decide) hS_rn
    have hS_x_2 := hF1.at hT_x_2 (by decide) hS_x_2
    have hS_x_3 := hF1.at hT_x_3 (by decide) hS_x_3
    have hS_rb := hF1.at hT_rb (by decide) hS_rb
    have hS_x_12 := hF1.at hT_x_12 (by decide) hS_x_12
    have hS_rt := hF1.at hT_rt (by decide) hS_rt
    obtain ⟨fa21, pl21, hQ21, hER21, hOK21⟩ := hx1
    obtain ⟨hS_o, hT_rn, hT_rb, hT_rt, hQg_, hen_, hta_, hte_⟩ := RQk hTy hT_o hQ21
    obtain ⟨f_22, hS_rt⟩ := hTy.k27 hT_rt
    have eg_ := hQg_.symm.trans (af_i hS_rt)
    subst eg_
    refine lv_istore_n (lv' := [(1, .int r_20), (0, .ref o)]) hx hb dX6_readTrade_25 rfl hl (by decide) rfl (fun ls hl => ?_)
    refine lv_aload_n hx hb dX6_readTrade_26 rfl (lv_at hl 1 rfl) ?_
    refine pl_callv (va_runV (As := []) (rest := []) ⟨hx, hb, hml, hown, hT⟩ (q_next l dC dI cy L kap pr ad S_19 H.size o hTy hT_o g fa21 pl21 rn rb rt en mt (nI (tkc g en (tke g en sp))) (SK g en (tke g en sp)) (tke g en (tke g en sp)) ⟨hS_o, af_i hS_rt, by omega, by omega, by omega⟩ (by omega)) (cwV 0 hT (gV w420 w422 ws0 w3 w423) rfl rfl rfl (by decide +kernel) ⟨(Nat.le_of_ble_eq_true rfl), (Nat.le_of_ble_eq_true rfl)⟩) ⟨pcS.blind, pl_recv hK hW hT_o.1 hS_o rfl, pcS.pre hW.1 hK hW.2.1 hN hSTR hW.2.2⟩ rfl rfl hl.1 rfl (lv_room (Nat.le_of_ble_eq_true rfl)) dX6_readTrade_27 ⟨(Nat.le_of_ble_eq_true rfl), (Nat.le_of_ble_eq_true rfl)⟩) hW hA0 hA (fun S_23 H locs hrel hW => ?_)
    obtain ⟨hTy, hF1, hx1⟩ := hrel
    have hFr := hFr.tr hF1 (by decide)
    have hS_rn := hF1.at hT_rn (by decide) hS_rn
    have hS_x_2 := hF1.at hT_x_2 (by decide) hS_x_2
    have hS_x_3 := hF1.at hT_x_3 (by decide) hS_x_3
    have hS_rb := hF1.at hT_rb (by decide) hS_rb
    have hS_x_12 := hF1.at hT_x_12 (by decide) hS_x_12
    have hS_rt := hF1.at hT_rt (by decide) hS_rt
    have htb_ := tke_b (g := g) (n := en) (p := tke g en (tke g en sp)) (by omega) (by omega)
    have hsg_ := SK_ge (g := g) (n := en) (i := tke g en (tke g en sp))
    obtain ⟨hS_o, hT_rn, hT_rb, hT_rt, hQg_, hen_, hta_, hte_⟩ := RQk hTy hT_o hx1
    obtain ⟨f_24, hS_rt⟩ := hTy.k27 hT_rt
    have eg_ := hQg_.symm.trans (af_i hS_rt)
    subst eg_
    have htkb_ := tkc_le (g := g) (n := en) (p := tke g en (tke g en sp))
    refine lv_aload_n hx hb dX6_readTrade_30 rfl (lv_at hl 1 rfl) ?_
    refine pl_calli (va_runV (As := []) (rest := []) ⟨hx, hb, hml, hown, hT⟩ (q_knownParty l dC dI cy L kap pr S_23 H.size o hTy hT_o g fa21 pl21 rn rb rt en mt (tke g en (tke g en sp)) ⟨hS_o, af_i hS_rt, by omega, by omega, by omega⟩ (by omega) df np nk ⟨inf_i hS_rn rfl, inf_i hS_rn rfl, by omega, by omega, by rw [fld_i hS_rn rfl hS_x_2, fld_i hS_rn rfl hS_x_3]; exact hN0, by rw [fld_i hS_rn rfl hS_x_2, fld_i hS_rn rfl hS_x_3]; exact hN8⟩) (cwV 0 hT (gV w545 w547 ws13 w3 w548) rfl rfl rfl (by decide +kernel) ⟨(Nat.le_of_ble_eq_true rfl), (Nat.le_of_ble_eq_true rfl)⟩) ⟨pcN.blind, pl_recv hK hW hT_o.1 hS_o rfl, pcN.pre hW.1 hK hW.2.1 hN (fun q h => absurd h List.not_mem_nil)⟩ rfl rfl hl.1 rfl (lv_room (Nat.le_of_ble_eq_true rfl)) dX6_readTrade_31 ⟨(Nat.le_of_ble_eq_true rfl), (Nat.le_of_ble_eq_true rfl)⟩) hW hA0 hA (fun r_26 S_25 H locs hrel hW => ?_)
    obtain ⟨hTy, hF1, hx1⟩ := hrel
    have hFr := hFr.tr hF1 (by decide)
    have hS_rn := hF1.at hT_rn (by decide) hS_rn
    have hS_x_2 := hF1.at hT_x_2 (by decide) hS_x_2
    have hS_x_3 := hF1.at hT_x_3 (by decide) hS_x_3
    have hS_rb := hF1.at hT_rb (by decide) hS_rb
    have hS_x_12 := hF1.at hT_x_12 (by decide) hS_x_12
    have hS_rt := hF1.at hT_rt (by decide) hS_rt
    obtain ⟨fa27, pl27, hQ27, hER27, hOK27⟩ := hx1
    obtain ⟨hS_o, hT_rn, hT_rb, hT_rt, hQg_, hen_, hta_, hte_⟩ := RQk hTy hT_o hQ27
    obtain ⟨f_28, hS_rt⟩ := hTy.k27 hT_rt
    have eg_ := hQg_.symm.trans (af_i hS_rt)
    subst eg_
    refine lv_istore_n (lv' := [(2, .int r_26), (1, .int r_20), (0, .ref o)]) hx hb dX6_readTrade_34 rfl hl (by decide) rfl (fun ls hl => ?_)
    refine lv_aload_n hx hb dX6_readTrade_35 rfl (lv_at hl 2 rfl) ?_
    refine lv_iload_n hx hb dX6_readTrade_36 rfl (lv_at hl 1 rfl) ?_
    refine lv_iload_n hx hb dX6_readTrade_37 rfl (lv_at hl 0 rfl) ?_
    refine pl_callv (va_runV (As := [.int r_20, .int r_26]) (rest := []) ⟨hx, hb, hml, hown, hT⟩ (q_failIfSame l dC dI cy L kap pr S_25 H.size o r_20 r_26 hTy hT_o g fa27 pl27 rn rb rt en mt (nI (tkc g en (tke g en (tke g en sp)))) (SK g en (tke g en (tke g en sp))) (tke g en (tke g en (tke g en sp))) ⟨hS_o, af_i hS_rt, by omega, by omega, by omega⟩) (cwV 2 hT (gV w549 w551 ws14 w3 w552) rfl rfl rfl (by decide +kernel) ⟨(Nat.le_of_ble_eq_true rfl), (Nat.le_of_ble_eq_true rfl)⟩) ⟨pcN.blind, pl_recv hK hW hT_o.1 hS_o rfl, pcN.pre hW.1 hK hW.2.1 hN (fun q h => absurd h List.not_mem_nil)⟩ rfl rfl hl.1 rfl (lv_room (Nat.le_of_ble_eq_true rfl)) dX6_readTrade_38 ⟨(Nat.le_of_ble_eq_true rfl), (Nat.le_of_ble_eq_true rfl)⟩) hW hA0 hA (fun S_29 H locs hrel hW => ?_)
    obtain ⟨hTy, hF1, hx1⟩ := hrel
    have hFr := hFr.tr hF1 (by decide)
    have hS_rn := hF1.at hT_rn (by decide) hS_rn
    have hS_x_2 := hF1.at hT_x_2 (by decide) hS_x_2
    have hS_x_3 := hF1.at hT_x_3 (by decide) hS_x_3
    have hS_rb := hF1.at hT_rb (by decide) hS_rb
    have hS_x_12 := hF1.at hT_x_12 (by decide) hS_x_12
    have hS_rt := hF1.at hT_rt (by decide) hS_rt
    obtain ⟨fa30, pl30, hQ30, hER30⟩ := hx1
    obtain ⟨hS_o, hT_rn, hT_rb, hT_rt, hQg_, hen_, hta_, hte_⟩ := RQk hTy hT_o hQ30
    obtain ⟨f_31, hS_rt⟩ := hTy.k27 hT_rt
    have eg_ := hQg_.symm.trans (af_i hS_rt)
    subst eg_
    refine lv_aload_n hx hb dX6_readTrade_41 rfl (lv_at hl 2 rfl) ?_
    refine pl_callv (va_runV (As := []) (rest := []) ⟨hx, hb, hml, hown, hT⟩ (q_next l dC dI cy L kap pr ad S_29 H.size o hTy hT_o g fa30 pl30 rn rb rt en mt (nI (tkc g en (tke g en (tke g en sp)))) (SK g en (tke g en (tke g en sp))) (tke g en (tke g en (tke g en sp))) ⟨hS_o, af_i hS_rt, by omega, by omega, by omega⟩ (by omega)) (cwV 0 hT (gV w420 w422 ws0 w3 w423) rfl rfl rfl (by decide +kernel) ⟨(Nat.le_of_ble_eq_true rfl), (Nat.le_of_ble_eq_true rfl)⟩) ⟨pcS.blind, pl_recv hK hW hT_o.1 hS_o rfl, pcS.pre hW.1 hK hW.2.1 hN hSTR hW.2.2⟩ rfl rfl hl.1 rfl (lv_room (Nat.le_of_ble_eq_true rfl)) dX6_readTrade_42 ⟨(Nat.le_of_ble_eq_true rfl), (Nat.le_of_ble_eq_true rfl)⟩) hW hA0 hA (fun S_32 H locs hrel hW => ?_)
    obtain ⟨hTy, hF1, hx1⟩ := hrel
    have hFr := hFr.tr hF1 (by decide)
    have hS_rn := hF1.at hT_rn (by decide) hS_rn
    have hS_x_2 := hF1.at hT_x_2 (by decide) hS_x_2
    have hS_x_3 := hF1.at hT_x_3 (by decide) hS_x_3
    have hS_rb := hF1.at hT_rb (by decide) hS_rb
    have hS_x_12 := hF1.at hT_x_12 (by decide) hS_x_12
    have hS_rt := hF1.at hT_rt (by decide) hS_rt
    have htb_ := tke_b (g := g) (n := en) (p := tke g en (tke g en (tke g en sp))) (by omega) (by omega)
    have hsg_ := SK_ge (g := g) (n := en) (i := tke g en (tke g en (tke g en sp)))
    obtain ⟨hS_o, hT_rn, hT_rb, hT_rt, hQg_, hen_, hta_, hte_⟩ := RQk hTy hT_o hx1
    obtain ⟨f_33, hS_rt⟩ := hTy.k27 hT_rt
    have eg_ := hQg_.symm.trans (af_i hS_rt)
    subst eg_
    have htkb_ := tkc_le (g := g) (n := en) (p := tke g en (tke g en (tke g en sp)))
    refine lv_aload_n hx hb dX6_readTrade_45 rfl (lv_at hl 2 rfl) ?_
    refine lv_iconst (v := 1) hx hb dX6_readTrade_46 (by decide) ?_
    refine lv_ldc (v := 999999) hx hb hown (hT _ w553) dX6_readTrade_47 ?_
    refine pl_calli (va_runV (As := [.int 1, .int 999999]) (rest := []) ⟨hx, hb, hml, hown, hT⟩ (q_numberWithin l dC dI cy L kap pr S_32 H.size o 1 999999 hTy hT_o g fa30 pl30 rn rb rt en mt (tke g en (tke g en (tke g en sp))) ⟨hS_o, af_i hS_rt, by omega, by omega, by omega⟩ (by omega)) (cwV 2 hT (gV w554 w556 ws15 w3 w557) rfl rfl rfl (by decide +kernel) ⟨(Nat.le_of_ble_eq_true rfl), (Nat.le_of_ble_eq_true rfl)⟩) ⟨pcN.blind, pl_recv hK hW hT_o.1 hS_o rfl, pcN.pre hW.1 hK hW.2.1 hN (fun q h => absurd h List.not_mem_nil)⟩ rfl rfl hl.1 rfl (lv_room (Nat.le_of_ble_eq_true rfl)) dX6_readTrade_49 ⟨(Nat.le_of_ble_eq_true rfl), (Nat.le_of_ble_eq_true rfl)⟩) hW hA0 hA (fun r_35 S_34 H locs hrel hW => ?_)
    obtain ⟨hTy, hF1, hx1⟩ := hrel
    have hFr := hFr.tr hF1 (by decide)
    have hS_rn := hF1.at hT_rn (by decide) hS_rn
    have hS_x_2 := hF1.at hT_x_2 (by decide) hS_x_2
    have hS_x_3 := hF1.at hT_x_3 (by decide) hS_x_3
    have hS_rb := hF1.at hT_rb (by decide) hS_rb
    have hS_x_12 := hF1.at hT_x_12 (by decide) hS_x_12
    have hS_rt := hF1.at hT_rt (by decide) hS_rt
    obtain ⟨fa36, pl36, hQ36, hER36, hOK36⟩ := hx1
    obtain ⟨hS_o, hT_rn, hT_rb, hT_rt, hQg_, hen_, hta_, hte_⟩ := RQk hTy hT_o hQ36
    obtain ⟨f_37, hS_rt⟩ := hTy.k27 hT_rt
    have eg_ := hQg_.symm.trans (af_i hS_rt)
    subst eg_
    refine lv_istore_n (lv' := [(3, .int r_35), (2, .int r_26), (1, .int r_20), (0, .ref o)]) hx hb dX6_readTrade_52 rfl hl (by decide) rfl (fun ls hl => ?_)
    refine lv_aload_n hx hb dX6_readTrade_53 rfl (lv_at hl 3 rfl) ?_
    refine pl_callv (va_runV (As := []) (rest := []) ⟨hx, hb, hml, hown, hT⟩ (q_next l dC dI cy L kap pr ad S_34 H.size o hTy hT_o g fa36 pl36 rn rb rt en mt (nI (tkc g en (tke g en (tke g en (tke g en sp))))) (SK g en (tke g en (tke g en (tke g en sp)))) (tke g en (tke g en (tke g en (tke g en sp)))) ⟨hS_o, af_i hS_rt, by omega, by omega, by omega⟩ (by omega)) (cwV 0 hT (gV w420 w422 ws0 w3 w423) rfl rfl rfl (by decide +kernel) ⟨(Nat.le_of_ble_eq_true rfl), (Nat.le_of_ble_eq_true rfl)⟩) ⟨pcS.blind, pl_recv hK hW hT_o.1 hS_o rfl, pcS.pre hW.1 hK hW.2.1 hN hSTR hW.2.2⟩ rfl rfl hl.1 rfl (lv_room (Nat.le_of_ble_eq_true rfl)) dX6_readTrade_54 ⟨(Nat.le_of_ble_eq_true rfl), (Nat.le_of_ble_eq_true rfl)⟩) hW hA0 hA (fun S_38 H locs hrel hW => ?_)
    obtain ⟨hTy, hF1, hx1⟩ := hrel
    have hFr := hFr.tr hF1 (by decide)
    have hS_rn := hF1.at hT_rn (by decide) hS_rn
    have hS_x_2 := hF1.at hT_x_2 (by decide) hS_x_2
    have hS_x_3 := hF1.at hT_x_3 (by decide) hS_x_3
    have hS_rb := hF1.at hT_rb (by decide) hS_rb
    have hS_x_12 := hF1.at hT_x_12 (by decide) hS_x_12
    have hS_rt := hF1.at hT_rt (by decide) hS_rt
    have htb_ := tke_b (g := g) (n := en) (p := tke g en (tke g en (tke g en (tke g en sp)))) (by omega) (by omega)
    have hsg_ := SK_ge (g := g) (n := en) (i := tke g en (tke g en (tke g en (tke g en sp))))
    obtain ⟨hS_o, hT_rn, hT_rb, hT_rt, hQg_, hen_, hta_, hte_⟩ := RQk hTy hT_o hx1
    obtain ⟨f_39, hS_rt⟩ := hTy.k27 hT_rt
    have eg_ := hQg_.symm.trans (af_i hS_rt)
    subst eg_
    have htkb_ := tkc_le (g := g) (n := en) (p := tke g en (tke g en (tke g en (tke g en sp))))
    refine lv_aload_n hx hb dX6_readTrade_57 rfl (lv_at hl 3 rfl) ?_
    refine pl_calli (va_runV (As := []) (rest := []) ⟨hx, hb, hml, hown, hT⟩ (q_knownKind l dC dI cy L kap pr S_38 H.size o hTy hT_o g fa36 pl36 rn rb rt en mt (tke g en (tke g en (tke g en (tke g en sp)))) ⟨hS_o, af_i hS_rt, by omega, by omega, by omega⟩ (by omega) df np nk ⟨inf_i hS_rn rfl, inf_i hS_rn rfl, by omega, by omega, by rw [fld_i hS_rn rfl hS_x_2, fld_i hS_rn rfl hS_x_3]; exact hN0, by rw [fld_i hS_rn rfl hS_x_2, fld_i hS_rn rfl hS_x_3]; exact hN8⟩) (cwV 0 hT (gV w558 w560 ws16 w3 w561) rfl rfl rfl (by decide +kernel) ⟨(Nat.le_of_ble_eq_true rfl), (Nat.le_of_ble_eq_true rfl)⟩) ⟨pcN.blind, pl_recv hK hW hT_o.1 hS_o rfl, pcN.pre hW.1 hK hW.2.1 hN (fun q h => absurd h List.not_mem_nil)⟩ rfl rfl hl.1 rfl (lv_room (Nat.le_of_ble_eq_true rfl)) dX6_readTrade_58 ⟨(Nat.le_of_ble_eq_true rfl), (Nat.le_of_ble_eq_true rfl)⟩) hW hA0 hA (fun r_41 S_40 H locs hrel hW => ?_)
    obtain ⟨hTy, hF1, hx1⟩ := hrel
    have hFr := hFr.tr hF1 (by decide)
    have hS_rn := hF1.at hT_rn (by decide) hS_rn
    have hS_x_2 := hF1.at hT_x_2 (by decide) hS_x_2
    have hS_x_3 := hF1.at hT_x_3 (by decide) hS_x_3
    have hS_rb := hF1.at hT_rb (by decide) hS_rb
    have hS_x_12 := hF1.at hT_x_12 (by decide) hS_x_12
    have hS_rt := hF1.at hT_rt (by decide) hS_rt
    obtain ⟨fa42, pl42, hQ42, hER42, hOK42⟩ := hx1
    obtain ⟨hS_o, hT_rn, hT_rb, hT_rt, hQg_, hen_, hta_, hte_⟩ := RQk hTy hT_o hQ42
    obtain ⟨f_43, hS_rt⟩ := hTy.k27 hT_rt
    have eg_ := hQg_.symm.trans (af_i hS_rt)
    subst eg_
    refine lv_istore (lv' := [(4, .int r_41), (3, .int r_35), (2, .int r_26), (1, .int r_20), (0, .ref o)]) hx hb dX6_readTrade_61 hl (by decide) rfl (fun ls hl => ?_)
    refine lv_aload_n hx hb dX6_readTrade_63 rfl (lv_at hl 4 rfl) ?_
    refine pl_callv (va_runV (As := []) (rest := []) ⟨hx, hb, hml, hown, hT⟩ (q_next l dC dI cy L kap pr ad S_40 H.size o hTy hT_o g fa42 pl42 rn rb rt en mt (nI (tkc g en (tke g en (tke g en (tke g en (tke g en sp)))))) (SK g en (tke g en (tke g en (tke g en (tke g en sp))))) (tke g en (tke g en (tke g en (tke g en (tke g en sp))))) ⟨hS_o, af_i hS_rt, by omega, by omega, by omega⟩ (by omega)) (cwV 0 hT (gV w420 w422 ws0 w3 w423) rfl rfl rfl (by decide +kernel) ⟨(Nat.le_of_ble_eq_true rfl), (Nat.le_of_ble_eq_true rfl)⟩) ⟨pcS.blind, pl_recv hK hW hT_o.1 hS_o rfl, pcS.pre hW.1 hK hW.2.1 hN hSTR hW.2.2⟩ rfl rfl hl.1 rfl (lv_room (Nat.le_of_ble_eq_true rfl)) dX6_readTrade_64 ⟨(Nat.le_of_ble_eq_true rfl), (Nat.le_of_ble_eq_true rfl)⟩) hW hA0 hA (fun S_44 H locs hrel hW => ?_)
    obtain ⟨hTy, hF1, hx1⟩ := hrel
    have hFr := hFr.tr hF1 (by decide)
    have hS_rn := hF1.at hT_rn (by decide) hS_rn
    have hS_x_2 := hF1.at hT_x_2 (by decide) hS_x_2
    have hS_x_3 := hF1.at hT_x_3 (by decide) hS_x_3
    have hS_rb := hF1.at hT_rb (by decide) hS_rb
    have hS_x_12 := hF1.at hT_x_12 (by decide) hS_x_12
    have hS_rt := hF1.at hT_rt (by decide) hS_rt
    have htb_ := tke_b (g := g) (n := en) (p := tke g en (tke g en (tke g en (tke g en (tke g en sp))))) (by omega) (by omega)
    have hsg_ := SK_ge (g := g) (n := en) (i := tke g en (tke g en (tke g en (tke g en (tke g en sp)))))
    obtain ⟨hS_o, hT_rn, hT_rb, hT_rt, hQg_, hen_, hta_, hte_⟩ := RQk hTy hT_o hx1
    obtain ⟨f_45, hS_rt⟩ := hTy.k27 hT_rt
    have eg_ := hQg_.symm.trans (af_i hS_rt)
    subst eg_
    have htkb_ := tkc_le (g := g) (n := en) (p := tke g en (tke g en (tke g en (tke g en (tke g en sp)))))
    refine lv_aload_n hx hb dX6_readTrade_67 rfl (lv_at hl 4 rfl) ?_
    refine pl_get (ci := 6) (v := .int fa42) (C := RX6) (T := TX6) (N := 10) hx hb hT iX6 hown hK hW hT_o.1 hS_o rfl 0 (by decide) w139 rfl dX6_readTrade_68 ?_
    refine lv_if_ne (tgt := 87) hx hb dX6_readTrade_71 (by decide) (fun c_71 => ?_) (fun c_71 => ?_)
    · exact W.vret hx hb hr (fun t ht h9 => ⟨⟨S_44, rfl, ⟨hTy, hFr, ⟨_, _, ⟨hS_o, af_i hS_rt, by omega, by omega, by omega⟩, by rw [show FU (decide (mn = 40)) (SK g en sp) = (0, 0) from if_neg (fun z => by have z := of_decide_eq_true z; omega)]; exact ERR_2 (show 0 < 100 from by decide) ERR_0 (two_c hER21 ptc_b (oth2 hER27 hER30 hOK27) otc_b hER36 nbc_b hER42 (fun a b => by rw [← hOK21 b]) (fun _ _ _ => rfl) (fun _ _ _ _ => rfl)).1, fun z => absurd z c_71⟩⟩, by rw [ht]; exact hW.1, va_K.moved h9.alike hK, hW.2.1⟩, hW.2.2.F ht⟩) hW.2.2.2.2 dX6_readTrade_87
    · have u4_ := z_ERR hER42 c_71
      have u3_ := z_ERR hER36 u4_
      have u2_ := z_ERR hER30 u3_
      have u1_ := z_ERR hER27 u2_
      have u0_ := z_ERR hER21 u1_
      have v21_ := nz_nnc hER21 ptc_b u0_ u1_
      have l21_ := ptc_lt v21_
      have q21_ := hOK21 v21_
      obtain ⟨k21, hk21⟩ : ∃ k, k = FN g df 0 np (SK g en (tke g en sp)) (tke g en (tke g en sp) - SK g en (tke g en sp)) := ⟨_, rfl⟩
      rw [← hk21] at q21_ l21_
      have v27_ := nz_nnc hER27 ptc_b u1_ u2_
      have l27_ := ptc_lt v27_
      have q27_ := hOK27 v27_
      obtain ⟨k27, hk27⟩ : ∃ k, k = FN g df 0 np (SK g en (tke g en (tke g en sp))) (tke g en (tke g en (tke g en sp)) - SK g en (tke g en (tke g en sp))) := ⟨_, rfl⟩
      rw [← hk27] at q27_ l27_
      have v42_ := nz_nnc hER42 ptc_b u4_ c_71
      have l42_ := ptc_lt v42_
      have q42_ := hOK42 v42_
      obtain ⟨k42, hk42⟩ : ∃ k, k = FN g df 8 nk (SK g en (tke g en (tke g en (tke g en (tke g en sp))))) (tke g en (tke g en (tke g en (tke g en (tke g en sp)))) - SK g en (tke g en (tke g en (tke g en (tke g en sp))))) := ⟨_, rfl⟩
      rw [← hk42] at q42_ l42_
      obtain rfl : r_20 = nI k21 := q21_
      obtain rfl : r_26 = nI k27 := q27_
      obtain rfl : r_41 = nI k42 := q42_
      refine lv_aload_n hx hb dX6_readTrade_74 rfl (lv_at hl 4 rfl) ?_
      refine pl_get (ci := 6) (v := .ref rb) (C := RX6) (T := TX6) (N := 10) hx hb hT iX6 hown hK hW hT_o.1 hS_o rfl 3 (by decide) w145 rfl dX6_readTrade_75 ?_
      refine lv_iload_n hx hb dX6_readTrade_78 rfl (lv_at hl 3 rfl) ?_
      refine lv_iload_n hx hb dX6_readTrade_79 rfl (lv_at hl 2 rfl) ?_
      refine lv_iload_n hx hb dX6_readTrade_80 rfl (lv_at hl 1 rfl) ?_
      refine lv_i2l hx hb dX6_readTrade_81 rfl ?_
      refine lv_topl (fun z_46 ez_46 => ?_)
      refine lv_iload hx hb dX6_readTrade_82 (lv_at hl 0 rfl) ?_
      refine pl_callv (va_runV (As := [.int (nI k21), .int (nI k27), .long z_46, .int (nI k42)]) (rest := []) ⟨hx, hb, hml, hown, hT⟩ (q_bappend l dC dI cy L kap pr S_44 H.size rb k21 k27 z_46 k42 hTy hT_rb (by omega) (by omega) (by omega) mn kf ⟨inf_i hS_rb rfl, by omega, by rw [fld_i hS_rb rfl hS_x_12]; exact hbk_⟩ (by omega)) (cwV 4 hT (gV w562 w563 w564 w5 w565) rfl rfl rfl (by decide +kernel) ⟨(Nat.le_of_ble_eq_true rfl), (Nat.le_of_ble_eq_true rfl)⟩) ⟨pcN.blind, pl_recv hK hW hT_rb.1 hS_rb rfl, pcN.pre hW.1 hK hW.2.1 hN (fun q h => absurd h List.not_mem_nil)⟩ rfl rfl hl.1 rfl (lv_room (Nat.le_of_ble_eq_true rfl)) dX6_readTrade_84 ⟨(Nat.le_of_ble_eq_true rfl), (Nat.le_of_ble_eq_true rfl)⟩) hW hA0 hA (fun S_47 H locs hrel hW => ?_)
      obtain ⟨hTy, hF1, hx1⟩ := hrel
      have hFr := hFr.tr hF1 (by decide)
      have hS_rn := hF1.at hT_rn (by decide) hS_rn
      have hS_x_2 := hF1.at hT_x_2 (by decide) hS_x_2
      have hS_x_3 := hF1.at hT_x_3 (by decide) hS_x_3
      have hS_o := hF1.at hT_o (by decide) hS_o
      have hS_rt := hF1.at hT_rt (by decide) hS_rt
      obtain ⟨x_48, x_49, x_50, x_51, x_52, x_53, x_54, x_55, hS_rb, hT_x_48, hT_x_49, hT_x_50, hT_x_51, hT_x_52, hT_x_53, hb_x_54⟩ := hTy.k0 hT_rb
      obtain ⟨f_56, hS_x_52⟩ := hTy.k23 hT_x_52
      obtain ⟨hb6_, hb40_, hbk_⟩ := hx1
      obtain rfl : x_54 = mn + 1 := ((nI_eq (by omega) (by omega)).mp (hb6_.symm.trans (inf_i hS_rb rfl))).symm
      rw [fld_i hS_rb rfl hS_x_52] at hbk_
      exact W.vret hx hb hr (fun t ht h9 => ⟨⟨S_47, rfl, ⟨hTy, hFr, ⟨_, _, ⟨hS_o, af_i hS_rt, by omega, by omega, by omega⟩, by rw [show FU (decide (mn = 40)) (SK g en sp) = (0, 0) from if_neg (fun z => by have z := of_decide_eq_true z; omega)]; exact ERR_2 (show 0 < 100 from by decide) ERR_0 (two_c hER21 ptc_b (oth2 hER27 hER30 hOK27) otc_b hER36 nbc_b hER42 (fun a b => by rw [← hOK21 b]) (fun _ _ _ => rfl) (fun _ _ _ _ => rfl)).1, fun _ => ⟨inf_i hS_rb rfl, by omega, by rw [fld_i hS_rb rfl hS_x_52]; exact hbk_⟩⟩⟩, by rw [ht]; exact hW.1, va_K.moved h9.alike hK, hW.2.1⟩, hW.2.2.F ht⟩) hW.2.2.2.2 dX6_readTrade_87
  · have c_9 : ¬ (mn < 40) := fun hh9 => c_9 ((nI_ltI (a := mn) (b := 40) (by omega) (by omega)).mpr hh9)
    refine lv_aload_n hx hb dX6_readTrade_12 rfl (lv_at hl 0 rfl) ?_
    refine lv_iconst (v := 4) hx hb dX6_readTrade_13 (by decide) ?_
    refine pl_callv (va_runV (As := [.int 4]) (rest := []) ⟨hx, hb, hml, hown, hT⟩ (q_fail l dC dI cy L kap pr S s.heap.size o 4 hTy hT_o g fa pl rn rb rt en mt (nI (tkc g en sp)) (SK g en sp) (tke g en sp) ⟨hS_o, af_i hS_rt, by omega, by omega, by omega⟩) (cwV 1 hT (gV w500 w502 ws5 w3 w503) rfl rfl rfl (by decide +kernel) ⟨(Nat.le_of_ble_eq_true rfl), (Nat.le_of_ble_eq_true rfl)⟩) ⟨pcN.blind, pl_recv hK hW hT_o.1 hS_o rfl, pcN.pre hW.1 hK hW.2.1 hN (fun q h => absurd h List.not_mem_nil)⟩ rfl rfl hl.1 rfl (lv_room (Nat.le_of_ble_eq_true rfl)) dX6_readTrade_14 ⟨(Nat.le_of_ble_eq_true rfl), (Nat.le_of_ble_eq_true rfl)⟩) hW hA0 hA (fun S_57 H locs hrel hW => ?_)
    obtain ⟨hTy, hF1, hx1⟩ := hrel
    have hFr := hFr.tr hF1 (by decide)
    have hS_rt := hF1.at hT_rt (by decide) hS_rt
    have hS_rn := hF1.at hT_rn (by decide) hS_rn
    have hS_x_2 := hF1.at hT_x_2 (by decide) hS_x_2
    have hS_x_3 := hF1.at hT_x_3 (by decide) hS_x_3
    have hS_rb := hF1.at hT_rb (by decide) hS_rb
    have hS_x_12 := hF1.at hT_x_12 (by decide) hS_x_12
    obtain ⟨fa58, pl58, hQ58, hfa58, hfb58⟩ := hx1
    obtain ⟨hS_o, hT_rn, hT_rb, hT_rt, hQg_, hen_, hta_, hte_⟩ := RQk hTy hT_o hQ58
    obtain ⟨f_59, hS_rt⟩ := hTy.k27 hT_rt
    have eg_ := hQg_.symm.trans (af_i hS_rt)
    subst eg_
    refine lv_aload_n hx hb dX6_readTrade_17 rfl (lv_at hl 0 rfl) ?_
    refine pl_callv (va_runV (As := []) (rest := []) ⟨hx, hb, hml, hown, hT⟩ (q_next l dC dI cy L kap pr ad S_57 H.size o hTy hT_o g fa58 pl58 rn rb rt en mt (nI (tkc g en sp)) (SK g en sp) (tke g en sp) ⟨hS_o, af_i hS_rt, by omega, by omega, by omega⟩ (by omega)) (cwV 0 hT (gV w420 w422 ws0 w3 w423) rfl rfl rfl (by decide +kernel) ⟨(Nat.le_of_ble_eq_true rfl), (Nat.le_of_ble_eq_true rfl)⟩) ⟨pcS.blind, pl_recv hK hW hT_o.1 hS_o rfl, pcS.pre hW.1 hK hW.2.1 hN hSTR hW.2.2⟩ rfl rfl hl.1 rfl (lv_room (Nat.le_of_ble_eq_true rfl)) dX6_readTrade_18 ⟨(Nat.le_of_ble_eq_true rfl), (Nat.le_of_ble_eq_true rfl)⟩) hW hA0 hA (fun S_60 H locs hrel hW => ?_)
    obtain ⟨hTy, hF1, hx1⟩ := hrel
    have hFr := hFr.tr hF1 (by decide)
    have hS_rn := hF1.at hT_rn (by decide) hS_rn
    have hS_x_2 := hF1.at hT_x_2 (by decide) hS_x_2
    have hS_x_3 := hF1.at hT_x_3 (by decide) hS_x_3
    have hS_rb := hF1.at hT_rb (by decide) hS_rb
    have hS_x_12 := hF1.at hT_x_12 (by decide) hS_x_12
    have hS_rt := hF1.at hT_rt (by decide) hS_rt
    have htb_ := tke_b (g := g) (n := en) (p := tke g en sp) (by omega) (by omega)
    have hsg_ := SK_ge (g := g) (n := en) (i := tke g en sp)
    obtain ⟨hS_o, hT_rn, hT_rb, hT_rt, hQg_, hen_, hta_, hte_⟩ := RQk hTy hT_o hx1
    obtain ⟨f_61, hS_rt⟩ := hTy.k27 hT_rt
    have eg_ := hQg_.symm.trans (af_i hS_rt)
    subst eg_
    have htkb_ := tkc_le (g := g) (n := en) (p := tke g en sp)
    refine lv_aload_n hx hb dX6_readTrade_21 rfl (lv_at hl 0 rfl) ?_
    refine pl_calli (va_runV (As := []) (rest := []) ⟨hx, hb, hml, hown, hT⟩ (q_knownParty l dC dI cy L kap pr S_60 H.size o hTy hT_o g fa58 pl58 rn rb rt en mt (tke g en sp) ⟨hS_o, af_i hS_rt, by omega, by omega, by omega⟩ (by omega) df np nk ⟨inf_i hS_rn rfl, inf_i hS_rn rfl, by omega, by omega, by rw [fld_i hS_rn rfl hS_x_2, fld_i hS_rn rfl hS_x_3]; exact hN0, by rw [fld_i hS_rn rfl hS_x_2, fld_i hS_rn rfl hS_x_3]; exact hN8⟩) (cwV 0 hT (gV w545 w547 ws13 w3 w548) rfl rfl rfl (by decide +kernel) ⟨(Nat.le_of_ble_eq_true rfl), (Nat.le_of_ble_eq_true rfl)⟩) ⟨pcN.blind, pl_recv hK hW hT_o.1 hS_o rfl, pcN.pre hW.1 hK hW.2.1 hN (fun q h => absurd h List.not_mem_nil)⟩ rfl rfl hl.1 rfl (lv_room (Nat.le_of_ble_eq_true rfl)) dX6_readTrade_22 ⟨(Nat.le_of_ble_eq_true rfl), (Nat.le_of_ble_eq_true rfl)⟩) hW hA0 hA (fun r_63 S_62 H locs hrel hW => ?_)
    obtain ⟨hTy, hF1, hx1⟩ := hrel
    have hFr := hFr.tr hF1 (by decide)
    have hS_rn := hF1.at hT_rn (by decide) hS_rn
    have hS_x_2 := hF1.at hT_x_2 (by decide) hS_x_2
    have hS_x_3 := hF1.at hT_x_3 (by decide) hS_x_3
    have hS_rb := hF1.at hT_rb (by decide) hS_rb
    have hS_x_12 := hF1.at hT_x_12 (by decide) hS_x_12
    have hS_rt := hF1.at hT_rt (by decide) hS_rt
    obtain ⟨fa64, pl64, hQ64, hER64, hOK64⟩ := hx1
    obtain ⟨hS_o, hT_rn, hT_rb, hT_rt, hQg_, hen_, hta_, hte_⟩ := RQk hTy hT_o hQ64
    obtain ⟨f_65, hS_rt⟩ := hTy.k27 hT_rt
    have eg_ := hQg_.symm.trans (af_i hS_rt)
    subst eg_
    refine lv_istore_n (lv' := [(1, .int r_63), (0, .ref o)]) hx hb dX6_readTrade_25 rfl hl (by decide) rfl (fun ls hl => ?_)
    refine lv_aload_n hx hb dX6_readTrade_26 rfl (lv_at hl 1 rfl) ?_
    refine pl_callv (va_runV (As := []) (rest := []) ⟨hx, hb, hml, hown, hT⟩ (q_next l dC dI cy L kap pr ad S_62 H.size o hTy hT_o g fa64 pl64 rn rb rt en mt (nI (tkc g en (tke g en sp))) (SK g en (tke g en sp)) (tke g en (tke g en sp)) ⟨hS_o, af_i hS_rt, by omega, by omega, by omega⟩ (by omega)) (cwV 0 hT (gV w420 w422 ws0 w3 w423) rfl rfl rfl (by decide +kernel) ⟨(Nat.le_of_ble_eq_true rfl), (Nat.le_of_ble_eq_true rfl)⟩) ⟨pcS.blind, pl_recv hK hW hT_o.1 hS_o rfl, pcS.pre hW.1 hK hW.2.1 hN hSTR hW.2.2⟩ rfl rfl hl.1 rfl (lv_room (Nat.le_of_ble_eq_true rfl)) dX6_readTrade_27 ⟨(Nat.le_of_ble_eq_true rfl), (Nat.le_of_ble_eq_true rfl)⟩) hW hA0 hA (fun S_66 H locs hrel hW => ?_)
    obtain ⟨hTy, hF1, hx1⟩ := hrel
    have hFr := hFr.tr hF1 (by decide)
    have hS_rn := hF1.at hT_rn (by decide) hS_rn
    have hS_x_2 := hF1.at hT_x_2 (by decide) hS_x_2
    have hS_x_3 := hF1.at hT_x_3 (by decide) hS_x_3
    have hS_rb := hF1.at hT_rb (by decide) hS_rb
    have hS_x_12 := hF1.at hT_x_12 (by decide) hS_x_12
    have hS_rt := hF1.at hT_rt (by decide) hS_rt
    have htb_ := tke_b (g := g) (n := en) (p := tke g en (tke g en sp)) (by omega) (by omega)
    have hsg_ := SK_ge (g := g) (n := en) (i := tke g en (tke g en sp))
    obtain ⟨hS_o, hT_rn, hT_rb, hT_rt, hQg_, hen_, hta_, hte_⟩ := RQk hTy hT_o hx1
    obtain ⟨f_67, hS_rt⟩ := hTy.k27 hT_rt
    have eg_ := hQg_.symm.trans (af_i hS_rt)
    subst eg_
    have htkb_ := tkc_le (g := g) (n := en) (p := tke g en (tke g en sp))
    refine lv_aload_n hx hb dX6_readTrade_30 rfl (lv_at hl 1 rfl) ?_
    refine pl_calli (va_runV (As := []) (rest := []) ⟨hx, hb, hml, hown, hT⟩ (q_knownParty l dC dI cy L kap pr S_66 H.size o hTy hT_o g fa64 pl64 rn rb rt en mt (tke g en (tke g en sp)) ⟨hS_o, af_i hS_rt, by omega, by omega, by omega⟩ (by omega) df np nk ⟨inf_i hS_rn rfl, inf_i hS_rn rfl, by omega, by omega, by rw [fld_i hS_rn rfl hS_x_2, fld_i hS_rn rfl hS_x_3]; exact hN0, by rw [fld_i hS_rn rfl hS_x_2, fld_i hS_rn rfl hS_x_3]; exact hN8⟩) (cwV 0 hT (gV w545 w547 ws13 w3 w548) rfl rfl rfl (by decide +kernel) ⟨(Nat.le_of_ble_eq_true rfl), (Nat.le_of_ble_eq_true rfl)⟩) ⟨pcN.blind, pl_recv hK hW hT_o.1 hS_o rfl, pcN.pre hW.1 hK hW.2.1 hN (fun q h => absurd h List.not_mem_nil)⟩ rfl rfl hl.1 rfl (lv_room (Nat.le_of_ble_eq_true rfl)) dX6_readTrade_31 ⟨(Nat.le_of_ble_eq_true rfl), (Nat.le_of_ble_eq_true rfl)⟩) hW hA0 hA (fun r_69 S_68 H locs hrel hW => ?_)
    obtain ⟨hTy, hF1, hx1⟩ := hrel
    have hFr := hFr.tr hF1 (by decide)
    have hS_rn := hF1.at hT_rn (by decide) hS_rn
    have hS_x_2 := hF1.at hT_x_2 (by decide) hS_x_2
    have hS_x_3 := hF1.at hT_x_3 (by decide) hS_x_3
    have hS_rb := hF1.at hT_rb (by decide) hS_rb
    have hS_x_12 := hF1.at hT_x_12 (by decide) hS_x_12
    have hS_rt := hF1.at hT_rt (by decide) hS_rt
    obtain ⟨fa70, pl70, hQ70, hER70, hOK70⟩ := hx1
    obtain ⟨hS_o, hT_rn, hT_rb, hT_rt, hQg_, hen_, hta_, hte_⟩ := RQk hTy hT_o hQ70
    obtain ⟨f_71, hS_rt⟩ := hTy.k27 hT_rt
    have eg_ := hQg_.symm.trans (af_i hS_rt)
    subst eg_
    refine lv_istore_n (lv' := [(2, .int r_69), (1, .int r_63), (0, .ref o)]) hx hb dX6_readTrade_34 rfl hl (by decide) rfl (fun ls hl => ?_)
    refine lv_aload_n hx hb dX6_readTrade_35 rfl (lv_at hl 2 rfl) ?_
    refine lv_iload_n hx hb dX6_readTrade_36 rfl (lv_at hl 1 rfl) ?_
    refine lv_iload_n hx hb dX6_readTrade_37 rfl (lv_at hl 0 rfl) ?_
    refine pl_callv (va_runV (As := [.int r_63, .int r_69]) (rest := []) ⟨hx, hb, hml, hown, hT⟩ (q_failIfSame l dC dI cy L kap pr S_68 H.size o r_63 r_69 hTy hT_o g fa70 pl70 rn rb rt en mt (nI (tkc g en (tke g en (tke g en sp)))) (SK g en (tke g en (tke g en sp))) (tke g en (tke g en (tke g en sp))) ⟨hS_o, af_i hS_rt, by omega, by omega, by omega⟩) (cwV 2 hT (gV w549 w551 ws14 w3 w552) rfl rfl rfl (by decide +kernel) ⟨(Nat.le_of_ble_eq_true rfl), (Nat.le_of_ble_eq_true rfl)⟩) ⟨pcN.blind, pl_recv hK hW hT_o.1 hS_o rfl, pcN.pre hW.1 hK hW.2.1 hN (fun q h => absurd h List.not_mem_nil)⟩ rfl rfl hl.1 rfl (lv_room (Nat.le_of_ble_eq_true rfl)) dX6_readTrade_38 ⟨(Nat.le_of_ble_eq_true rfl), (Nat.le_of_ble_eq_true rfl)⟩) hW hA0 hA (fun S_72 H locs hrel hW => ?_)
    obtain ⟨hTy, hF1, hx1⟩ := hrel
    have hFr := hFr.tr hF1 (by decide)
    have hS_rn := hF1.at hT_rn (by decide) hS_rn
    have hS_x_2 := hF1.at hT_x_2 (by decide) hS_x_2
    have hS_x_3 := hF1.at hT_x_3 (by decide) hS_x_3
    have hS_rb := hF1.at hT_rb (by decide) hS_rb
    have hS_x_12 := hF1.at hT_x_12 (by decide) hS_x_12
    have hS_rt := hF1.at hT_rt (by decide) hS_rt
    obtain ⟨fa73, pl73, hQ73, hER73⟩ := hx1
    obtain ⟨hS_o, hT_rn, hT_rb, hT_rt, hQg_, hen_, hta_, hte_⟩ := RQk hTy hT_o hQ73
    obtain ⟨f_74, hS_rt⟩ := hTy.k27 hT_rt
    have eg_ := hQg_.symm.trans (af_i hS_rt)
    subst eg_
    refine lv_aload_n hx hb dX6_readTrade_41 rfl (lv_at hl 2 rfl) ?_
    refine pl_callv (va_runV (As := []) (rest := []) ⟨hx, hb, hml, hown, hT⟩ (q_next l dC dI cy L kap pr ad S_72 H.size o hTy hT_o g fa73 pl73 rn rb rt en mt (nI (tkc g en (tke g en (tke g en sp)))) (SK g en (tke g en (tke g en sp))) (tke g en (tke g en (tke g en sp))) ⟨hS_o, af_i hS_rt, by omega, by omega, by omega⟩ (by omega)) (cwV 0 hT (gV w420 w422 ws0 w3 w423) rfl rfl rfl (by decide +kernel) ⟨(Nat.le_of_ble_eq_true rfl), (Nat.le_of_ble_eq_true rfl)⟩) ⟨pcS.blind, pl_recv hK hW hT_o.1 hS_o rfl, pcS.pre hW.1 hK hW.2.1 hN hSTR hW.2.2⟩ rfl rfl hl.1 rfl (lv_room (Nat.le_of_ble_eq_true rfl)) dX6_readTrade_42 ⟨(Nat.le_of_ble_eq_true rfl), (Nat.le_of_ble_eq_true rfl)⟩) hW hA0 hA (fun S_75 H locs hrel hW => ?_)
    obtain ⟨hTy, hF1, hx1⟩ := hrel
    have hFr := hFr.tr hF1 (by decide)
    have hS_rn := hF1.at hT_rn (by decide) hS_rn
    have hS_x_2 := hF1.at hT_x_2 (by decide) hS_x_2
    have hS_x_3 := hF1.at hT_x_3 (by decide) hS_x_3
    have hS_rb := hF1.at hT_rb (by decide) hS_rb
    have hS_x_12 := hF1.at hT_x_12 (by decide) hS_x_12
    have hS_rt := hF1.at hT_rt (by decide) hS_rt
    have htb_ := tke_b (g := g) (n := en) (p := tke g en (tke g en (tke g en sp))) (by omega) (by omega)
    have hsg_ := SK_ge (g := g) (n := en) (i := tke g en (tke g en (tke g en sp)))
    obtain ⟨hS_o, hT_rn, hT_rb, hT_rt, hQg_, hen_, hta_, hte_⟩ := RQk hTy hT_o hx1
    obtain ⟨f_76, hS_rt⟩ := hTy.k27 hT_rt
    have eg_ := hQg_.symm.trans (af_i hS_rt)
    subst eg_
    have htkb_ := tkc_le (g := g) (n := en) (p := tke g en (tke g en (tke g en sp)))
    refine lv_aload_n hx hb dX6_readTrade_45 rfl (lv_at hl 2 rfl) ?_
    refine lv_iconst (v := 1) hx hb dX6_readTrade_46 (by decide) ?_
    refine lv_ldc (v := 999999) hx hb hown (hT _ w553) dX6_readTrade_47 ?_
    refine pl_calli (va_runV (As := [.int 1, .int 999999]) (rest := []) ⟨hx, hb, hml, hown, hT⟩ (q_numberWithin l dC dI cy L kap pr S_75 H.size o 1 999999 hTy hT_o g fa73 pl73 rn rb rt en mt (tke g en (tke g en (tke g en sp))) ⟨hS_o, af_i hS_rt, by omega, by omega, by omega⟩ (by omega)) (cwV 2 hT (gV w554 w556 ws15 w3 w557) rfl rfl rfl (by decide +kernel) ⟨(Nat.le_of_ble_eq_true rfl), (Nat.le_of_ble_eq_true rfl)⟩) ⟨pcN.blind, pl_recv hK hW hT_o.1 hS_o rfl, pcN.pre hW.1 hK hW.2.1 hN (fun q h => absurd h List.not_mem_nil)⟩ rfl rfl hl.1 rfl (lv_room (Nat.le_of_ble_eq_true rfl)) dX6_readTrade_49 ⟨(Nat.le_of_ble_eq_true rfl), (Nat.le_of_ble_eq_true rfl)⟩) hW hA0 hA (fun r_78 S_77 H locs hrel hW => ?_)
    obtain ⟨hTy, hF1, hx1⟩ := hrel
    have hFr := hFr.tr hF1 (by decide)
    have hS_rn := hF1.at hT_rn (by decide) hS_rn
    have hS_x_2 := hF1.at hT_x_2 (by decide) hS_x_2
    have hS_x_3 := hF1.at hT_x_3 (by decide) hS_x_3
    have hS_rb := hF1.at hT_rb (by decide) hS_rb
    have hS_x_12 := hF1.at hT_x_12 (by decide) hS_x_12
    have hS_rt := hF1.at hT_rt (by decide) hS_rt
    obtain ⟨fa79, pl79, hQ79, hER79, hOK79⟩ := hx1
    obtain ⟨hS_o, hT_rn, hT_rb, hT_rt, hQg_, hen_, hta_, hte_⟩ := RQk hTy hT_o hQ79
    obtain ⟨f_80, hS_rt⟩ := hTy.k27 hT_rt
    have eg_ := hQg_.symm.trans (af_i hS_rt)
    subst eg_
    refine lv_istore_n (lv' := [(3, .int r_78), (2, .int r_69), (1, .int r_63), (0, .ref o)]) hx hb dX6_readTrade_52 rfl hl (by decide) rfl (fun ls hl => ?_)
    refine lv_aload_n hx hb dX6_readTrade_53 rfl (lv_at hl 3 rfl) ?_
    refine pl_callv (va_runV (As := []) (rest := []) ⟨hx, hb, hml, hown, hT⟩ (q_next l dC dI cy L kap pr ad S_77 H.size o hTy hT_o g fa79 pl79 rn rb rt en mt (nI (tkc g en (tke g en (tke g en (tke g en sp))))) (SK g en (tke g en (tke g en (tke g en sp)))) (tke g en (tke g en (tke g en (tke g en sp)))) ⟨hS_o, af_i hS_rt, by omega, by omega, by omega⟩ (by omega)) (cwV 0 hT (gV w420 w422 ws0 w3 w423) rfl rfl rfl (by decide +kernel) ⟨(Nat.le_of_ble_eq_true rfl), (Nat.le_of_ble_eq_true rfl)⟩) ⟨pcS.blind, pl_recv hK hW hT_o.1 hS_o rfl, pcS.pre hW.1 hK hW.2.1 hN hSTR hW.2.2⟩ rfl rfl hl.1 rfl (lv_room (Nat.le_of_ble_eq_true rfl)) dX6_readTrade_54 ⟨(Nat.le_of_ble_eq_true rfl), (Nat.le_of_ble_eq_true rfl)⟩) hW hA0 hA (fun S_81 H locs hrel hW => ?_)
    obtain ⟨hTy, hF1, hx1⟩ := hrel
    have hFr := hFr.tr hF1 (by decide)
    have hS_rn := hF1.at hT_rn (by decide) hS_rn
    have hS_x_2 := hF1.at hT_x_2 (by decide) hS_x_2
    have hS_x_3 := hF1.at hT_x_3 (by decide) hS_x_3
    have hS_rb := hF1.at hT_rb (by decide) hS_rb
    have hS_x_12 := hF1.at hT_x_12 (by decide) hS_x_12
    have hS_rt := hF1.at hT_rt (by decide) hS_rt
    have htb_ := tke_b (g := g) (n := en) (p := tke g en (tke g en (tke g en (tke g en sp)))) (by omega) (by omega)
    have hsg_ := SK_ge (g := g) (n := en) (i := tke g en (tke g en (tke g en (tke g en sp))))
    obtain ⟨hS_o, hT_rn, hT_rb, hT_rt, hQg_, hen_, hta_, hte_⟩ := RQk hTy hT_o hx1
    obtain ⟨f_82, hS_rt⟩ := hTy.k27 hT_rt
    have eg_ := hQg_.symm.trans (af_i hS_rt)
    subst eg_
    have htkb_ := tkc_le (g := g) (n := en) (p := tke g en (tke g en (tke g en (tke g en sp))))
    refine lv_aload_n hx hb dX6_readTrade_57 rfl (lv_at hl 3 rfl) ?_
    refine pl_calli (va_runV (As := []) (rest := []) ⟨hx, hb, hml, hown, hT⟩ (q_knownKind l dC dI cy L kap pr S_81 H.size o hTy hT_o g fa79 pl79 rn rb rt en mt (tke g en (tke g en (tke g en (tke g en sp)))) ⟨hS_o, af_i hS_rt, by omega, by omega, by omega⟩ (by omega) df np nk ⟨inf_i hS_rn rfl, inf_i hS_rn rfl, by omega, by omega, by rw [fld_i hS_rn rfl hS_x_2, fld_i hS_rn rfl hS_x_3]; exact hN0, by rw [fld_i hS_rn rfl hS_x_2, fld_i hS_rn rfl hS_x_3]; exact hN8⟩) (cwV 0 hT (gV w558 w560 ws16 w3 w561) rfl rfl rfl (by decide +kernel) ⟨(Nat.le_of_ble_eq_true rfl), (Nat.le_of_ble_eq_true rfl)⟩) ⟨pcN.blind, pl_recv hK hW hT_o.1 hS_o rfl, pcN.pre hW.1 hK hW.2.1 hN (fun q h => absurd h List.not_mem_nil)⟩ rfl rfl hl.1 rfl (lv_room (Nat.le_of_ble_eq_true rfl)) dX6_readTrade_58 ⟨(Nat.le_of_ble_eq_true rfl), (Nat.le_of_ble_eq_true rfl)⟩) hW hA0 hA (fun r_84 S_83 H locs hrel hW => ?_)
    obtain ⟨hTy, hF1, hx1⟩ := hrel
    have hFr := hFr.tr hF1 (by decide)
    have hS_rn := hF1.at hT_rn (by decide) hS_rn
    have hS_x_2 := hF1.at hT_x_2 (by decide) hS_x_2
    have hS_x_3 := hF1.at hT_x_3 (by decide) hS_x_3
    have hS_rb := hF1.at hT_rb (by decide) hS_rb
    have hS_x_12 := hF1.at hT_x_12 (by decide) hS_x_12
    have hS_rt := hF1.at hT_rt (by decide) hS_rt
    obtain ⟨fa85, pl85, hQ85, hER85, hOK85⟩ := hx1
    obtain ⟨hS_o, hT_rn, hT_rb, hT_rt, hQg_, hen_, hta_, hte_⟩ := RQk hTy hT_o hQ85
    obtain ⟨f_86, hS_rt⟩ := hTy.k27 hT_rt
    have eg_ := hQg_.symm.trans (af_i hS_rt)
    subst eg_
    refine lv_istore (lv' := [(4, .int r_84), (3, .int r_78), (2, .int r_69), (1, .int r_63), (0, .ref o)]) hx hb dX6_readTrade_61 hl (by decide) rfl (fun ls hl => ?_)
    refine lv_aload_n hx hb dX6_readTrade_63 rfl (lv_at hl 4 rfl) ?_
    refine pl_callv (va_runV (As := []) (rest := []) ⟨hx, hb, hml, hown, hT⟩ (q_next l dC dI cy L kap pr ad S_83 H.size o hTy hT_o g fa85 pl85 rn rb rt en mt (nI (tkc g en (tke g en (tke g en (tke g en (tke g en sp)))))) (SK g en (tke g en (tke g en (tke g en (tke g en sp))))) (tke g en (tke g en (tke g en (tke g en (tke g en sp))))) ⟨hS_o, af_i hS_rt, by omega, by omega, by omega⟩ (by omega)) (cwV 0 hT (gV w420 w422 ws0 w3 w423) rfl rfl rfl (by decide +kernel) ⟨(Nat.le_of_ble_eq_true rfl), (Nat.le_of_ble_eq_true rfl)⟩) ⟨pcS.blind, pl_recv hK hW hT_o.1 hS_o rfl, pcS.pre hW.1 hK hW.2.1 hN hSTR hW.2.2⟩ rfl rfl hl.1 rfl (lv_room (Nat.le_of_ble_eq_true rfl)) dX6_readTrade_64 ⟨(Nat.le_of_ble_eq_true rfl), (Nat.le_of_ble_eq_true rfl)⟩) hW hA0 hA (fun S_87 H locs hrel hW => ?_)
    obtain ⟨hTy, hF1, hx1⟩ := hrel
    have hFr := hFr.tr hF1 (by decide)
    have hS_rn := hF1.at hT_rn (by decide) hS_rn
    have hS_x_2 := hF1.at hT_x_2 (by decide) hS_x_2
    have hS_x_3 := hF1.at hT_x_3 (by decide) hS_x_3
    have hS_rb := hF1.at hT_rb (by decide) hS_rb
    have hS_x_12 := hF1.at hT_x_12 (by decide) hS_x_12
    have hS_rt := hF1.at hT_rt (by decide) hS_rt
    have htb_ := tke_b (g := g) (n := en) (p := tke g en (tke g en (tke g en (tke g en (tke g en sp))))) (by omega) (by omega)
    have hsg_ := SK_ge (g := g) (n := en) (i := tke g en (tke g en (tke g en (tke g en (tke g en sp)))))
    obtain ⟨hS_o, hT_rn, hT_rb, hT_rt, hQg_, hen_, hta_, hte_⟩ := RQk hTy hT_o hx1
    obtain ⟨f_88, hS_rt⟩ := hTy.k27 hT_rt
    have eg_ := hQg_.symm.trans (af_i hS_rt)
    subst eg_
    have htkb_ := tkc_le (g := g) (n := en) (p := tke g en (tke g en (tke g en (tke g en (tke g en sp)))))
    refine lv_aload_n hx hb dX6_readTrade_67 rfl (lv_at hl 4 rfl) ?_
    refine pl_get (ci := 6) (v := .int fa85) (C := RX6) (T := TX6) (N := 10) hx hb hT iX6 hown hK hW hT_o.1 hS_o rfl 0 (by decide) w139 rfl dX6_readTrade_68 ?_
    have hnx : fa58 ≠ 0 := by by_cases q : fa = 0; rw [(hfb58 q).1]; decide; rw [(hfa58 q).1]; exact q
    have hne : fa85 ≠ 0 := fun z => hnx (z_ERR hER64 (z_ERR hER70 (z_ERR hER73 (z_ERR hER79 (z_ERR hER85 (z))))))
    refine lv_if_ne (tgt := 87) hx hb dX6_readTrade_71 (by decide) (fun _ => ?_) (fun h => absurd h hne)
    exact W.vret hx hb hr (fun t ht h9 => ⟨⟨S_87, rfl, ⟨hTy, hFr, ⟨_, _, ⟨hS_o, af_i hS_rt, by omega, by omega, by omega⟩, by rw [show FU (decide (mn = 40)) (SK g en sp) = (4, SK g en sp) from if_pos (decide_eq_true (by omega))]; exact ERR_2 (show 4 < 100 from by decide) (ERR_f hfa58 hfb58 (show (4 : Nat) ≠ 0 from by decide)) (two_c hER64 ptc_b (oth2 hER70 hER73 hOK70) otc_b hER79 nbc_b hER85 (fun a b => by rw [← hOK64 b]) (fun _ _ _ => rfl) (fun _ _ _ _ => rfl)).1, fun z => absurd z hne⟩⟩, by rw [ht]; exact hW.1, va_K.moved h9.alike hK, hW.2.1⟩, hW.2.2.F ht⟩) hW.2.2.2.2 dX6_readTrade_87

