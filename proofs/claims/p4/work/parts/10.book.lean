set_option maxHeartbeats 4000000 in
set_option maxRecDepth 100000 in
theorem s_cell (l : Launch) (dC : Nat → ClassId) (dI : Nat → Nat → Nat) (sz : Nat) (a : Nat) (b : Nat) (hb_a : a < 8) (hb_b : b < 8) : Met l yX11_cell (wT yX11_cell cX11_cell 2 (some .int)) ({ frames := 0, cells := 0, slots := 0, locals := 0 }) (pcW dC dI [.int (nI a), .int (nI b)] sz [] []) (vp_Si (fun r => r = nI (a * 8 + b))) 0 0 (fun _ => False) := by
  refine Met.ofW (cc := cX11_cell) (maxL := 2) (ret := (some .int)) (by decide) rfl ?_
  intro p e s m args below meth c s₁ B hml hv
  obtain ⟨rfl, hsz, hP, hK, hD0⟩ := hv
  have hx := B.exec
  have hb := B.bytes
  have hr := B.returns
  have hT : ∀ wd ∈ TB, wd.before [.int (nI a), .int (nI b)].toArray s = true := fun wd h => atoms_spec (ws := wT yX11_cell cX11_cell 2 (some .int)) B.pre wd (List.mem_cons_of_mem _ h)
  have hown : s.vm.findClass RX11 = some m.cls := findClass_of_methodNamed B.named
  have hlocks := B.notSynchronized
  subst hsz
  have hl := lv_entry ([.int (nI a), .int (nI b)]) (n := 2) (Nat.le_of_ble_eq_true rfl)
  rw [lg_entry_eq]
  generalize (lg_sl ([.int (nI a), .int (nI b)]) ++ List.replicate (2 - (lg_sl ([.int (nI a), .int (nI b)])).length) Slot.unset).toArray = ls at hl ⊢
  have hl : lv_has ls 2 [(0, .int (nI a)), (1, .int (nI b))] := hl
  refine lv_iload_n hx hb dX11_cell_0 rfl (lv_at hl 0 rfl) ?_
  refine lv_bipush (v := 8) hx hb dX11_cell_1 (by decide) ?_
  refine lv_imul hx hb dX11_cell_3 ?_
  refine lv_topi (fun z_1 ez_1 => ?_)
  obtain rfl : z_1 = nI (a * 8) := ez_1.trans (pk_mul (a) (8))
  refine lv_iload_n hx hb dX11_cell_4 rfl (lv_at hl 1 rfl) ?_
  refine lv_iadd hx hb dX11_cell_5 ?_
  refine lv_topi (fun z_2 ez_2 => ?_)
  obtain rfl : z_2 = nI ((a * 8) + b) := ez_2.trans (nI_add (a * 8) (b))
  exact W.iret (v := nI ((a * 8) + b)) hx hb hr (fun t ht h9 => ⟨nI ((a * 8) + b), rfl, rfl, ht⟩) (fun q h => by cases h) dX11_cell_6

set_option maxHeartbeats 4000000 in
set_option maxRecDepth 100000 in
theorem s_bclear0 (l : Launch) (dC : Nat → ClassId) (dI : Nat → Nat → Nat) (cy : Nat → ClassId) (L : List Nat) (kap : Nat → Nat) (pr : Pr) (S : Nat → va_E) (sz : Nat) (q : Nat) (v : Int32) (hTy : Ty cy L kap pr S) (hT_q : TK L kap q 24) : Met l yJ7_fill_53178 (wT yJ7_fill_53178 cJ7_fill_53178 4 none) ({ frames := 0, cells := 0, slots := 0, locals := 0 }) (pcN dC dI [.ref q, .int v] sz (va_pl L S) (cyT cy) NLs []) (va_Qv (fun S' => Ty cy L kap pr S' ∧ Fr kap [24] S S') (fun S' t => pB dC dI (AL L sz) (va_pl L S') (cyT cy) t) (AL L sz)) 0 0 (AL L sz) := by
  refine Met.ofW (cc := cJ7_fill_53178) (maxL := 4) (ret := none) (by decide) rfl ?_
  intro p e s m args below meth c s₁ B hml hv
  obtain ⟨rfl, hsz, hP, hK, hD0, hN, -⟩ := hv
  have hx := B.exec
  have hb := B.bytes
  have hr := B.returns
  have hT : ∀ wd ∈ TB, wd.before [.ref q, .int v].toArray s = true := fun wd h => atoms_spec (ws := wT yJ7_fill_53178 cJ7_fill_53178 4 none) B.pre wd (List.mem_cons_of_mem _ h)
  have hown : s.vm.findClass RJ7 = some m.cls := findClass_of_methodNamed B.named
  have hlocks := B.notSynchronized
  subst hsz
  have hW : PW dC dI L (AL L s.heap.size) s.heap S s.heap [] := ⟨hP, pl_self hD0, va_S.rf⟩
  have hA0 : ∀ q, q ∈ L → AL L s.heap.size q := fun _ h => Or.inl h
  have hA : ∀ q, s.heap.size ≤ q → AL L s.heap.size q := fun _ h => Or.inr h
  have hFr : Fr kap [24] S S := Fr.rf
  have hl := lv_entry ([.ref q, .int v]) (n := 4) (Nat.le_of_ble_eq_true rfl)
  rw [lg_entry_eq]
  generalize (lg_sl ([.ref q, .int v]) ++ List.replicate (4 - (lg_sl ([.ref q, .int v])).length) Slot.unset).toArray = ls at hl ⊢
  have hl : lv_has ls 4 [(0, .ref q), (1, .int v)] := hl
  refine lv_iconst (v := 0) hx hb dJ7_fill_53178_0 (by decide) ?_
  refine lv_istore_n (lv' := [(2, .int 0), (0, .ref q), (1, .int v)]) hx hb dJ7_fill_53178_1 rfl hl (by decide) rfl (fun ls hl => ?_)
  refine lv_aload_n hx hb dJ7_fill_53178_2 rfl (lv_at hl 1 rfl) ?_
  obtain ⟨f_1, hS_q⟩ := hTy.k24 hT_q
  refine pl_alen (v := 64) hx hb hK hW hT_q.1 hS_q 0 rfl rfl dJ7_fill_53178_3 ?_
  refine lv_istore_n (lv' := [(3, .int 64), (2, .int 0), (0, .ref q), (1, .int v)]) hx hb dJ7_fill_53178_4 rfl hl (by decide) rfl (fun ls hl => ?_)
  have loop : ∀ (fuel : Nat) (i : Nat) (SS : Nat → va_E) (H : Heap) (locs : List Loc) (ls : Array Slot), 64 - i < fuel → (i ≤ 64) → Ty cy L kap pr SS → Fr kap [24] S SS → Fr kap [24] S SS → PW dC dI L (AL L s.heap.size) s.heap SS H locs → lv_has ls 4 [(3, .int 64), (2, .int (nI i)), (0, .ref q), (1, .int v)] → W p l e (headSpec (wT yJ7_fill_53178 cJ7_fill_53178 4 none) { frames := 0, cells := 0, slots := 0, locals := 0 }).room s m [.ref q, .int v].toArray below meth c H locs 0 0 (MQ below (va_Qv (fun S' => Ty cy L kap pr S' ∧ Fr kap [24] S S') (fun S' t => pB dC dI (AL L s.heap.size) (va_pl L S') (cyT cy) t) (AL L s.heap.size)) [.ref q, .int v].toArray s 0 0 (AL L s.heap.size)) (F0 m 5 ls []) := by
    intro fuel
    induction fuel with
    | zero => intro i SS H locs ls h; exact absurd h (Nat.not_lt_zero _)
    | succ fu5 ih5 =>
      intro i S_2 H locs ls hm5 hb_i hTy hFr hFl5 hW hl
      refine lv_iload_n hx hb dJ7_fill_53178_5 rfl (lv_at hl 1 rfl) ?_
      refine lv_iload_n hx hb dJ7_fill_53178_6 rfl (lv_at hl 0 rfl) ?_
      refine lv_icmp_ge (tgt := 20) hx hb dJ7_fill_53178_7 (by decide) (fun c_7 => ?_) (fun c_7 => ?_)
      · have c_7 : 64 ≤ i := (nI_leI (a := 64) (b := i) (by omega) (by omega)).mp c_7
        exact W.vret hx hb hr (fun t ht h9 => ⟨⟨S_2, rfl, ⟨hTy, hFr⟩, by rw [ht]; exact hW.1, va_K.moved h9.alike hK, hW.2.1⟩, hW.2.2.F ht⟩) hW.2.2.2.2 dJ7_fill_53178_20
      · have c_7 : ¬ (64 ≤ i) := fun hh9 => c_7 ((nI_leI (a := 64) (b := i) (by omega) (by omega)).mpr hh9)
        refine lv_aload_n hx hb dJ7_fill_53178_10 rfl (lv_at hl 2 rfl) ?_
        refine lv_iload_n hx hb dJ7_fill_53178_11 rfl (lv_at hl 1 rfl) ?_
        refine lv_iload_n hx hb dJ7_fill_53178_12 rfl (lv_at hl 3 rfl) ?_
        obtain ⟨f_3, hS_q⟩ := hTy.k24 hT_q
        refine pl_iast hx hb hK hW hT_q.1 hS_q (vp_in_nI (n := i) (N := 64) (by omega) (by omega)) dJ7_fill_53178_13 (fun H locs f_5 S_4 ef_f_5 e1 hW => ?_)
        have hTy := hTy.u24 e1 hT_q ⟨f_5, rfl⟩
        have hFr := uf hFr e1 hT_q (by decide) (by decide)
        have hFl5 := uf hFl5 e1 hT_q (by decide) (by decide)
        have hS_q := us e1
        refine lv_iinc (v := nI (i + 1)) (lv' := [(2, .int (nI (i + 1))), (3, .int 64), (0, .ref q), (1, .int v)]) hx hb dJ7_fill_53178_14 hl (k := 1) rfl (nI_add (i) 1) (by decide) rfl (fun ls hl => ?_)
        refine lv_goto (tgt := 5) hx hb dJ7_fill_53178_17 (by decide) ?_
        exact ih5 (i + 1) _ _ _ ls (by omega) (by omega) hTy hFr hFl5 hW (lv_sub hl [1, 0, 2, 3] rfl)
  exact loop ((64 - 0) + 1) 0 _ _ _ ls (Nat.lt_succ_self _) (by omega) hTy hFr Fr.rf hW (lv_sub hl [0, 1, 2, 3] rfl)

set_option maxHeartbeats 4000000 in
set_option maxRecDepth 100000 in
theorem s_append (l : Launch) (dC : Nat → ClassId) (dI : Nat → Nat → Nat) (cy : Nat → ClassId) (L : List Nat) (kap : Nat → Nat) (pr : Pr) (S : Nat → va_E) (sz : Nat) (b : Nat) (g : Nat) (t : Nat) (x : Int64) (k : Nat) (hTy : Ty cy L kap pr S) (hT_b : TK L kap b 0) (hb_g : g < 8) (hb_t : t < 8) (hb_k : k < 4) : Met l yX0_append (wT yX0_append cX0_append 6 none) ({ frames := 0, cells := 0, slots := 0, locals := 0 }) (pcN dC dI [.ref b, .int (nI g), .int (nI t), .long x, .int (nI k)] sz (va_pl L S) (cyT cy) NLs []) (va_Qv (fun S' => Ty cy L kap pr S' ∧ Fr kap [0, 20, 21, 22, 23] S S') (fun S' t => pB dC dI (AL L sz) (va_pl L S') (cyT cy) t) (AL L sz)) 0 0 (AL L sz) := by
  refine Met.ofW (cc := cX0_append) (maxL := 6) (ret := none) (by decide) rfl ?_
  intro p e s m args below meth c s₁ B hml hv
  obtain ⟨rfl, hsz, hP, hK, hD0, hN, -⟩ := hv
  have hx := B.exec
  have hb := B.bytes
  have hr := B.returns
  have hT : ∀ wd ∈ TB, wd.before [.ref b, .int (nI g), .int (nI t), .long x, .int (nI k)].toArray s = true := fun wd h => atoms_spec (ws := wT yX0_append cX0_append 6 none) B.pre wd (List.mem_cons_of_mem _ h)
  have hown : s.vm.findClass RX0 = some m.cls := findClass_of_methodNamed B.named
  have hlocks := B.notSynchronized
  subst hsz
  have hW : PW dC dI L (AL L s.heap.size) s.heap S s.heap [] := ⟨hP, pl_self hD0, va_S.rf⟩
  have hA0 : ∀ q, q ∈ L → AL L s.heap.size q := fun _ h => Or.inl h
  have hA : ∀ q, s.heap.size ≤ q → AL L s.heap.size q := fun _ h => Or.inr h
  have hFr : Fr kap [0, 20, 21, 22, 23] S S := Fr.rf
  have hl := lv_entry ([.ref b, .int (nI g), .int (nI t), .long x, .int (nI k)]) (n := 6) (Nat.le_of_ble_eq_true rfl)
  rw [lg_entry_eq]
  generalize (lg_sl ([.ref b, .int (nI g), .int (nI t), .long x, .int (nI k)]) ++ List.replicate (6 - (lg_sl ([.ref b, .int (nI g), .int (nI t), .long x, .int (nI k)])).length) Slot.unset).toArray = ls at hl ⊢
  have hl : lv_has ls 6 [(0, .ref b), (1, .int (nI g)), (2, .int (nI t)), (3, .long x), (5, .int (nI k))] := hl
  refine lv_aload_n hx hb dX0_append_0 rfl (lv_at hl 0 rfl) ?_
  obtain ⟨x_1, x_2, x_3, x_4, x_5, x_6, x_7, x_8, hS_b, hT_x_1, hT_x_2, hT_x_3, hT_x_4, hT_x_5, hT_x_6, hb_x_7⟩ := hTy.k0 hT_b
  refine pl_get (ci := 0) (v := .int (nI x_7)) (C := RX0) (T := TX0) (N := 8) hx hb hT iX0 hown hK hW hT_b.1 hS_b rfl 6 (by decide) w112 rfl dX0_append_1 ?_
  refine lv_bipush (v := 40) hx hb dX0_append_4 (by decide) ?_
  refine lv_icmp_lt (tgt := 10) hx hb dX0_append_6 (by decide) (fun c_6 => ?_) (fun c_6 => ?_)
  · have c_6 : x_7 < 40 := (nI_ltI (a := x_7) (b := 40) (by omega) (by omega)).mp c_6
    refine lv_aload_n hx hb dX0_append_10 rfl (lv_at hl 0 rfl) ?_
    refine pl_get (ci := 0) (v := .ref x_1) (C := RX0) (T := TX0) (N := 8) hx hb hT iX0 hown hK hW hT_b.1 hS_b rfl 0 (by decide) w88 rfl dX0_append_11 ?_
    refine lv_aload_n hx hb dX0_append_14 rfl (lv_at hl 0 rfl) ?_
    refine pl_get (ci := 0) (v := .int (nI x_7)) (C := RX0) (T := TX0) (N := 8) hx hb hT iX0 hown hK hW hT_b.1 hS_b rfl 6 (by decide) w112 rfl dX0_append_15 ?_
    refine lv_iload_n hx hb dX0_append_18 rfl (lv_at hl 1 rfl) ?_
    obtain ⟨f_9, hS_x_1, hi_f_9⟩ := hTy.k20 hT_x_1
    refine pl_iast hx hb hK hW hT_x_1.1 hS_x_1 (vp_in_nI (n := x_7) (N := 40) (by omega) (by omega)) dX0_append_19 (fun H locs f_11 S_10 ef_f_11 e1 hW => ?_)
    have hi_f_11 := inv_up hi_f_9 ef_f_11 ⟨g, by omega, rfl⟩
    have hTy := hTy.u20 e1 hT_x_1 ⟨f_11, rfl, hi_f_11⟩
    have hS_b := un e1 hT_b hT_x_1 (by decide) hS_b
    have hFr := uf hFr e1 hT_x_1 (by decide) (by decide)
    have hS_x_1 := us e1
    refine lv_aload_n hx hb dX0_append_20 rfl (lv_at hl 0 rfl) ?_
    refine pl_get (ci := 0) (v := .ref x_2) (C := RX0) (T := TX0) (N := 8) hx hb hT iX0 hown hK hW hT_b.1 hS_b rfl 1 (by decide) w92 rfl dX0_append_21 ?_
    refine lv_aload_n hx hb dX0_append_24 rfl (lv_at hl 0 rfl) ?_
    refine pl_get (ci := 0) (v := .int (nI x_7)) (C := RX0) (T := TX0) (N := 8) hx hb hT iX0 hown hK hW hT_b.1 hS_b rfl 6 (by decide) w112 rfl dX0_append_25 ?_
    refine lv_iload_n hx hb dX0_append_28 rfl (lv_at hl 2 rfl) ?_
    obtain ⟨f_12, hS_x_2, hi_f_12⟩ := hTy.k20 hT_x_2
    refine pl_iast hx hb hK hW hT_x_2.1 hS_x_2 (vp_in_nI (n := x_7) (N := 40) (by omega) (by omega)) dX0_append_29 (fun H locs f_14 S_13 ef_f_14 e1 hW => ?_)
    have hi_f_14 := inv_up hi_f_12 ef_f_14 ⟨t, by omega, rfl⟩
    have hTy := hTy.u20 e1 hT_x_2 ⟨f_14, rfl, hi_f_14⟩
    have hS_b := un e1 hT_b hT_x_2 (by decide) hS_b
    have hFr := uf hFr e1 hT_x_2 (by decide) (by decide)
    have hS_x_2 := us e1
    refine lv_aload_n hx hb dX0_append_30 rfl (lv_at hl 0 rfl) ?_
    refine pl_get (ci := 0) (v := .ref x_4) (C := RX0) (T := TX0) (N := 8) hx hb hT iX0 hown hK hW hT_b.1 hS_b rfl 3 (by decide) w100 rfl dX0_append_31 ?_
    refine lv_aload_n hx hb dX0_append_34 rfl (lv_at hl 0 rfl) ?_
    refine pl_get (ci := 0) (v := .int (nI x_7)) (C := RX0) (T := TX0) (N := 8) hx hb hT iX0 hown hK hW hT_b.1 hS_b rfl 6 (by decide) w112 rfl dX0_append_35 ?_
    refine lv_lload_n hx hb dX0_append_38 rfl (lv_at hl 3 rfl) ?_
    obtain ⟨f_15, hS_x_4⟩ := hTy.k22 hT_x_4
    refine pl_last hx hb hK hW hT_x_4.1 hS_x_4 (vp_in_nI (n := x_7) (N := 40) (by omega) (by omega)) dX0_append_39 (fun H locs f_17 S_16 ef_f_17 e1 hW => ?_)
    have hTy := hTy.u22 e1 hT_x_4 ⟨f_17, rfl⟩
    have hS_b := un e1 hT_b hT_x_4 (by decide) hS_b
    have hS_x_2 := un e1 hT_x_2 hT_x_4 (by decide) hS_x_2
    have hFr := uf hFr e1 hT_x_4 (by decide) (by decide)
    have hS_x_4 := us e1
    refine lv_aload_n hx hb dX0_append_40 rfl (lv_at hl 0 rfl) ?_
    refine pl_get (ci := 0) (v := .ref x_3) (C := RX0) (T := TX0) (N := 8) hx hb hT iX0 hown hK hW hT_b.1 hS_b rfl 2 (by decide) w96 rfl dX0_append_41 ?_
    refine lv_aload_n hx hb dX0_append_44 rfl (lv_at hl 0 rfl) ?_
    refine pl_get (ci := 0) (v := .int (nI x_7)) (C := RX0) (T := TX0) (N := 8) hx hb hT iX0 hown hK hW hT_b.1 hS_b rfl 6 (by decide) w112 rfl dX0_append_45 ?_
    refine lv_iload hx hb dX0_append_48 (lv_at hl 4 rfl) ?_
    obtain ⟨f_18, hS_x_3, hi_f_18⟩ := hTy.k21 hT_x_3
    refine pl_iast hx hb hK hW hT_x_3.1 hS_x_3 (vp_in_nI (n := x_7) (N := 40) (by omega) (by omega)) dX0_append_50 (fun H locs f_20 S_19 ef_f_20 e1 hW => ?_)
    have hi_f_20 := inv_up hi_f_18 ef_f_20 ⟨k, by omega, rfl⟩
    have hTy := hTy.u21 e1 hT_x_3 ⟨f_20, rfl, hi_f_20⟩
    have hS_b := un e1 hT_b hT_x_3 (by decide) hS_b
    have hS_x_2 := un e1 hT_x_2 hT_x_3 (by decide) hS_x_2
    have hS_x_4 := un e1 hT_x_4 hT_x_3 (by decide) hS_x_4
    have hFr := uf hFr e1 hT_x_3 (by decide) (by decide)
    have hS_x_3 := us e1
    refine lv_aload_n hx hb dX0_append_51 rfl (lv_at hl 0 rfl) ?_
    refine pl_get (ci := 0) (v := .ref x_5) (C := RX0) (T := TX0) (N := 8) hx hb hT iX0 hown hK hW hT_b.1 hS_b rfl 4 (by decide) w104 rfl dX0_append_52 ?_
    refine lv_aload_n hx hb dX0_append_55 rfl (lv_at hl 0 rfl) ?_
    refine pl_get (ci := 0) (v := .int (nI x_7)) (C := RX0) (T := TX0) (N := 8) hx hb hT iX0 hown hK hW hT_b.1 hS_b rfl 6 (by decide) w112 rfl dX0_append_56 ?_
    refine lv_iconst (v := 0) hx hb dX0_append_59 (by decide) ?_
    obtain ⟨f_21, hS_x_5⟩ := hTy.k23 hT_x_5
    refine pl_zast hx hb hK hW hT_x_5.1 hS_x_5 (vp_in_nI (n := x_7) (N := 40) (by omega) (by omega)) dX0_append_60 (fun H locs f_23 S_22 ef_f_23 e1 hW => ?_)
    have hTy := hTy.u23 e1 hT_x_5 ⟨f_23, rfl⟩
    have hS_b := un e1 hT_b hT_x_5 (by decide) hS_b
    have hS_x_2 := un e1 hT_x_2 hT_x_5 (by decide) hS_x_2
    have hS_x_4 := un e1 hT_x_4 hT_x_5 (by decide) hS_x_4
    have hS_x_3 := un e1 hT_x_3 hT_x_5 (by decide) hS_x_3
    have hFr := uf hFr e1 hT_x_5 (by decide) (by decide)
    have hS_x_5 := us e1
    refine lv_aload_n hx hb dX0_append_61 rfl (lv_at hl 0 rfl) ?_
    refine lv_dup hx hb dX0_append_62 rfl ?_
    refine pl_get (ci := 0) (v := .int (nI x_7)) (C := RX0) (T := TX0) (N := 8) hx hb hT iX0 hown hK hW hT_b.1 hS_b rfl 6 (by decide) w112 rfl dX0_append_63 ?_
    refine lv_iconst (v := 1) hx hb dX0_append_66 (by decide) ?_
    refine lv_iadd hx hb dX0_append_67 ?_
    refine lv_topi (fun z_24 ez_24 => ?_)
    obtain rfl : z_24 = nI (x_7 + 1) := ez_24.trans (nI_add (x_7) (1))
    refine pl_put (ci := 0) (v := .int (nI (x_7 + 1))) (ty := .int) (C := RX0) (T := TX0) (N := 8) (fs' := [.ref x_1, .ref x_2, .ref x_3, .ref x_4, .ref x_5, .ref x_6, .int (nI (x_7 + 1)), .int x_8]) hx hb hT iX0 tyX0 tyX0_ok nmX0 hown hK hW hT_b.1 hS_b rfl 6 (by decide) w112 rfl (by decide +kernel) rfl rfl (Nat.le_of_ble_eq_true rfl) rfl dX0_append_68 (fun H locs S_25 e1 hW => ?_)
    have hTy := hTy.u0 e1 hT_b ⟨x_1, x_2, x_3, x_4, x_5, x_6, x_7 + 1, x_8, rfl, hT_x_1, hT_x_2, hT_x_3, hT_x_4, hT_x_5, hT_x_6, (by omega)⟩
    have hS_x_2 := un e1 hT_x_2 hT_b (by decide) hS_x_2
    have hS_x_4 := un e1 hT_x_4 hT_b (by decide) hS_x_4
    have hS_x_3 := un e1 hT_x_3 hT_b (by decide) hS_x_3
    have hS_x_5 := un e1 hT_x_5 hT_b (by decide) hS_x_5
    have hFr := uf hFr e1 hT_b (by decide) (by decide)
    have hS_b := us e1
    exact W.vret hx hb hr (fun t ht h9 => ⟨⟨S_25, rfl, ⟨hTy, hFr⟩, by rw [ht]; exact hW.1, va_K.moved h9.alike hK, hW.2.1⟩, hW.2.2.F ht⟩) hW.2.2.2.2 dX0_append_71
  · have c_6 : ¬ (x_7 < 40) := fun hh9 => c_6 ((nI_ltI (a := x_7) (b := 40) (by omega) (by omega)).mpr hh9)
    exact W.vret hx hb hr (fun t ht h9 => ⟨⟨S, rfl, ⟨hTy, hFr⟩, by rw [ht]; exact hW.1, va_K.moved h9.alike hK, hW.2.1⟩, hW.2.2.F ht⟩) hW.2.2.2.2 dX0_append_9

set_option maxHeartbeats 4000000 in
set_option maxRecDepth 100000 in
theorem s_copyTrade (l : Launch) (dC : Nat → ClassId) (dI : Nat → Nat → Nat) (cy : Nat → ClassId) (L : List Nat) (kap : Nat → Nat) (pr : Pr) (S : Nat → va_E) (sz : Nat) (b : Nat) (o : Nat) (i : Nat) (j : Nat) (hTy : Ty cy L kap pr S) (hT_b : TK L kap b 0) (hT_o : TK L kap o 0) (hb_i : i < 40) (hb_j : j < 40) : Met l yX0_copyTrade (wT yX0_copyTrade cX0_copyTrade 4 none) ({ frames := 0, cells := 0, slots := 0, locals := 0 }) (pcN dC dI [.ref b, .ref o, .int (nI i), .int (nI j)] sz (va_pl L S) (cyT cy) NLs []) (va_Qv (fun S' => Ty cy L kap pr S' ∧ Fr kap [20, 21, 22, 23] S S') (fun S' t => pB dC dI (AL L sz) (va_pl L S') (cyT cy) t) (AL L sz)) 0 0 (AL L sz) := by
  refine Met.ofW (cc := cX0_copyTrade) (maxL := 4) (ret := none) (by decide) rfl ?_
  intro p e s m args below meth c s₁ B hml hv
  obtain ⟨rfl, hsz, hP, hK, hD0, hN, -⟩ := hv
  have hx := B.exec
  have hb := B.bytes
  have hr := B.returns
  have hT : ∀ wd ∈ TB, wd.before [.ref b, .ref o, .int (nI i), .int (nI j)].toArray s = true := fun wd h => atoms_spec (ws := wT yX0_copyTrade cX0_copyTrade 4 none) B.pre wd (List.mem_cons_of_mem _ h)
  have hown : s.vm.findClass RX0 = some m.cls := findClass_of_methodNamed B.named
  have hlocks := B.notSynchronized
  subst hsz
  have hW : PW dC dI L (AL L s.heap.size) s.heap S s.heap [] := ⟨hP, pl_self hD0, va_S.rf⟩
  have hA0 : ∀ q, q ∈ L → AL L s.heap.size q := fun _ h => Or.inl h
  have hA : ∀ q, s.heap.size ≤ q → AL L s.heap.size q := fun _ h => Or.inr h
  have hFr : Fr kap [20, 21, 22, 23] S S := Fr.rf
  have hl := lv_entry ([.ref b, .ref o, .int (nI i), .int (nI j)]) (n := 4) (Nat.le_of_ble_eq_true rfl)
  rw [lg_entry_eq]
  generalize (lg_sl ([.ref b, .ref o, .int (nI i), .int (nI j)]) ++ List.replicate (4 - (lg_sl ([.ref b, .ref o, .int (nI i), .int (nI j)])).length) Slot.unset).toArray = ls at hl ⊢
  have hl : lv_has ls 4 [(0, .ref b), (1, .ref o), (2, .int (nI i)), (3, .int (nI j))] := hl
  refine lv_aload_n hx hb dX0_copyTrade_0 rfl (lv_at hl 0 rfl) ?_
  obtain ⟨x_1, x_2, x_3, x_4, x_5, x_6, x_7, x_8, hS_b, hT_x_1, hT_x_2, hT_x_3, hT_x_4, hT_x_5, hT_x_6, hb_x_7⟩ := hTy.k0 hT_b
  refine pl_get (ci := 0) (v := .ref x_1) (C := RX0) (T := TX0) (N := 8) hx hb hT iX0 hown hK hW hT_b.1 hS_b rfl 0 (by decide) w88 rfl dX0_copyTrade_1 ?_
  refine lv_iload_n hx hb dX0_copyTrade_4 rfl (lv_at hl 3 rfl) ?_
  refine lv_aload_n hx hb dX0_copyTrade_5 rfl (lv_at hl 1 rfl) ?_
  obtain ⟨x_9, x_10, x_11, x_12, x_13, x_14, x_15, x_16, hS_o, hT_x_9, hT_x_10, hT_x_11, hT_x_12, hT_x_13, hT_x_14, hb_x_15⟩ := hTy.k0 hT_o
  refine pl_get (ci := 0) (v := .ref x_9) (C := RX0) (T := TX0) (N := 8) hx hb hT iX0 hown hK hW hT_o.1 hS_o rfl 0 (by decide) w88 rfl dX0_copyTrade_6 ?_
  refine lv_iload_n hx hb dX0_copyTrade_9 rfl (lv_at hl 2 rfl) ?_
  obtain ⟨f_17, hS_x_9, hi_f_17⟩ := hTy.k20 hT_x_9
  refine pl_iald hx hb hK hW hT_x_9.1 hS_x_9 (vp_in_nI (n := i) (N := 40) (by omega) (by omega)) dX0_copyTrade_10 ?_
  refine lv_topi (fun y_18 ey_18 => ?_)
  obtain ⟨k_19, hb_k_19, hq_k_19⟩ := hi_f_17 (i) (by omega)
  obtain rfl : y_18 = nI k_19 := ey_18.trans (by show f_17 (nI (i)).toNatClampNeg = _; rw [nI_clamp (by omega)]; exact hq_k_19)
  obtain ⟨f_20, hS_x_1, hi_f_20⟩ := hTy.k20 hT_x_1
  refine pl_iast hx hb hK hW hT_x_1.1 hS_x_1 (vp_in_nI (n := j) (N := 40) (by omega) (by omega)) dX0_copyTrade_11 (fun H locs f_22 S_21 ef_f_22 e1 hW => ?_)
  have hi_f_22 := inv_up hi_f_20 ef_f_22 ⟨k_19, by omega, rfl⟩
  have hTy := hTy.u20 e1 hT_x_1 ⟨f_22, rfl, hi_f_22⟩
  have hS_b := un e1 hT_b hT_x_1 (by decide) hS_b
  have hS_o := un e1 hT_o hT_x_1 (by decide) hS_o
  have hFr := uf hFr e1 hT_x_1 (by decide) (by decide)
  have hS_x_1 := us e1
  refine lv_aload_n hx hb dX0_copyTrade_12 rfl (lv_at hl 0 rfl) ?_
  refine pl_get (ci := 0) (v := .ref x_2) (C := RX0) (T := TX0) (N := 8) hx hb hT iX0 hown hK hW hT_b.1 hS_b rfl 1 (by decide) w92 rfl dX0_copyTrade_13 ?_
  refine lv_iload_n hx hb dX0_copyTrade_16 rfl (lv_at hl 3 rfl) ?_
  refine lv_aload_n hx hb dX0_copyTrade_17 rfl (lv_at hl 1 rfl) ?_
  refine pl_get (ci := 0) (v := .ref x_10) (C := RX0) (T := TX0) (N := 8) hx hb hT iX0 hown hK hW hT_o.1 hS_o rfl 1 (by decide) w92 rfl dX0_copyTrade_18 ?_
  refine lv_iload_n hx hb dX0_copyTrade_21 rfl (lv_at hl 2 rfl) ?_
  obtain ⟨f_23, hS_x_10, hi_f_23⟩ := hTy.k20 hT_x_10
  refine pl_iald hx hb hK hW hT_x_10.1 hS_x_10 (vp_in_nI (n := i) (N := 40) (by omega) (by omega)) dX0_copyTrade_22 ?_
  refine lv_topi (fun y_24 ey_24 => ?_)
  obtain ⟨k_25, hb_k_25, hq_k_25⟩ := hi_f_23 (i) (by omega)
  obtain rfl : y_24 = nI k_25 := ey_24.trans (by show f_23 (nI (i)).toNatClampNeg = _; rw [nI_clamp (by omega)]; exact hq_k_25)
  obtain ⟨f_26, hS_x_2, hi_f_26⟩ := hTy.k20 hT_x_2
  refine pl_iast hx hb hK hW hT_x_2.1 hS_x_2 (vp_in_nI (n := j) (N := 40) (by omega) (by omega)) dX0_copyTrade_23 (fun H locs f_28 S_27 ef_f_28 e1 hW => ?_)
  have hi_f_28 := inv_up hi_f_26 ef_f_28 ⟨k_25, by omega, rfl⟩
  have hTy := hTy.u20 e1 hT_x_2 ⟨f_28, rfl, hi_f_28⟩
  have hS_b := un e1 hT_b hT_x_2 (by decide) hS_b
  have hS_o := un e1 hT_o hT_x_2 (by decide) hS_o
  have hFr := uf hFr e1 hT_x_2 (by decide) (by decide)
  have hS_x_2 := us e1
  refine lv_aload_n hx hb dX0_copyTrade_24 rfl (lv_at hl 0 rfl) ?_
  refine pl_get (ci := 0) (v := .ref x_4) (C := RX0) (T := TX0) (N := 8) hx hb hT iX0 hown hK hW hT_b.1 hS_b rfl 3 (by decide) w100 rfl dX0_copyTrade_25 ?_
  refine lv_iload_n hx hb dX0_copyTrade_28 rfl (lv_at hl 3 rfl) ?_
  refine lv_aload_n hx hb dX0_copyTrade_29 rfl (lv_at hl 1 rfl) ?_
  refine pl_get (ci := 0) (v := .ref x_12) (C := RX0) (T := TX0) (N := 8) hx hb hT iX0 hown hK hW hT_o.1 hS_o rfl 3 (by decide) w100 rfl dX0_copyTrade_30 ?_
  refine lv_iload_n hx hb dX0_copyTrade_33 rfl (lv_at hl 2 rfl) ?_
  obtain ⟨f_29, hS_x_12⟩ := hTy.k22 hT_x_12
  refine pl_lald hx hb hK hW hT_x_12.1 hS_x_12 (vp_in_nI (n := i) (N := 40) (by omega) (by omega)) dX0_copyTrade_34 ?_
  refine lv_topl (fun y_30 ey_30 => ?_)
  obtain ⟨f_31, hS_x_4⟩ := hTy.k22 hT_x_4
  refine pl_last hx hb hK hW hT_x_4.1 hS_x_4 (vp_in_nI (n := j) (N := 40) (by omega) (by omega)) dX0_copyTrade_35 (fun H locs f_33 S_32 ef_f_33 e1 hW => ?_)
  have hTy := hTy.u22 e1 hT_x_4 ⟨f_33, rfl⟩
  have hS_b := un e1 hT_b hT_x_4 (by decide) hS_b
  have hS_o := un e1 hT_o hT_x_4 (by decide) hS_o
  have hS_x_2 := un e1 hT_x_2 hT_x_4 (by decide) hS_x_2
  have hFr := uf hFr e1 hT_x_4 (by decide) (by decide)
  have hS_x_4 := us e1
  refine lv_aload_n hx hb dX0_copyTrade_36 rfl (lv_at hl 0 rfl) ?_
  refine pl_get (ci := 0) (v := .ref x_3) (C := RX0) (T := TX0) (N := 8) hx hb hT iX0 hown hK hW hT_b.1 hS_b rfl 2 (by decide) w96 rfl dX0_copyTrade_37 ?_
  refine lv_iload_n hx hb dX0_copyTrade_40 rfl (lv_at hl 3 rfl) ?_
  refine lv_aload_n hx hb dX0_copyTrade_41 rfl (lv_at hl 1 rfl) ?_
  refine pl_get (ci := 0) (v := .ref x_11) (C := RX0) (T := TX0) (N := 8) hx hb hT iX0 hown hK hW hT_o.1 hS_o rfl 2 (by decide) w96 rfl dX0_copyTrade_42 ?_
  refine lv_iload_n hx hb dX0_copyTrade_45 rfl (lv_at hl 2 rfl) ?_
  obtain ⟨f_34, hS_x_11, hi_f_34⟩ := hTy.k21 hT_x_11
  refine pl_iald hx hb hK hW hT_x_11.1 hS_x_11 (vp_in_nI (n := i) (N := 40) (by omega) (by omega)) dX0_copyTrade_46 ?_
  refine lv_topi (fun y_35 ey_35 => ?_)
  obtain ⟨k_36, hb_k_36, hq_k_36⟩ := hi_f_34 (i) (by omega)
  obtain rfl : y_35 = nI k_36 := ey_35.trans (by show f_34 (nI (i)).toNatClampNeg = _; rw [nI_clamp (by omega)]; exact hq_k_36)
  obtain ⟨f_37, hS_x_3, hi_f_37⟩ := hTy.k21 hT_x_3
  refine pl_iast hx hb hK hW hT_x_3.1 hS_x_3 (vp_in_nI (n := j) (N := 40) (by omega) (by omega)) dX0_copyTrade_47 (fun H locs f_39 S_38 ef_f_39 e1 hW => ?_)
  have hi_f_39 := inv_up hi_f_37 ef_f_39 ⟨k_36, by omega, rfl⟩
  have hTy := hTy.u21 e1 hT_x_3 ⟨f_39, rfl, hi_f_39⟩
  have hS_b := un e1 hT_b hT_x_3 (by decide) hS_b
  have hS_o := un e1 hT_o hT_x_3 (by decide) hS_o
  have hS_x_2 := un e1 hT_x_2 hT_x_3 (by decide) hS_x_2
  have hS_x_4 := un e1 hT_x_4 hT_x_3 (by decide) hS_x_4
  have hFr := uf hFr e1 hT_x_3 (by decide) (by decide)
  have hS_x_3 := us e1
  refine lv_aload_n hx hb dX0_copyTrade_48 rfl (lv_at hl 0 rfl) ?_
  refine pl_get (ci := 0) (v := .ref x_5) (C := RX0) (T := TX0) (N := 8) hx hb hT iX0 hown hK hW hT_b.1 hS_b rfl 4 (by decide) w104 rfl dX0_copyTrade_49 ?_
  refine lv_iload_n hx hb dX0_copyTrade_52 rfl (lv_at hl 3 rfl) ?_
  refine lv_aload_n hx hb dX0_copyTrade_53 rfl (lv_at hl 1 rfl) ?_
  refine pl_get (ci := 0) (v := .ref x_13) (C := RX0) (T := TX0) (N := 8) hx hb hT iX0 hown hK hW hT_o.1 hS_o rfl 4 (by decide) w104 rfl dX0_copyTrade_54 ?_
  refine lv_iload_n hx hb dX0_copyTrade_57 rfl (lv_at hl 2 rfl) ?_
  obtain ⟨f_40, hS_x_13⟩ := hTy.k23 hT_x_13
  refine pl_zald hx hb hK hW hT_x_13.1 hS_x_13 (vp_in_nI (n := i) (N := 40) (by omega) (by omega)) dX0_copyTrade_58 ?_
  refine lv_topi (fun y_41 ey_41 => ?_)
  obtain ⟨f_42, hS_x_5⟩ := hTy.k23 hT_x_5
  refine pl_zast hx hb hK hW hT_x_5.1 hS_x_5 (vp_in_nI (n := j) (N := 40) (by omega) (by omega)) dX0_copyTrade_59 (fun H locs f_44 S_43 ef_f_44 e1 hW => ?_)
  have hTy := hTy.u23 e1 hT_x_5 ⟨f_44, rfl⟩
  have hS_b := un e1 hT_b hT_x_5 (by decide) hS_b
  have hS_o := un e1 hT_o hT_x_5 (by decide) hS_o
  have hS_x_2 := un e1 hT_x_2 hT_x_5 (by decide) hS_x_2
  have hS_x_4 := un e1 hT_x_4 hT_x_5 (by decide) hS_x_4
  have hS_x_3 := un e1 hT_x_3 hT_x_5 (by decide) hS_x_3
  have hFr := uf hFr e1 hT_x_5 (by decide) (by decide)
  have hS_x_5 := us e1
  exact W.vret hx hb hr (fun t ht h9 => ⟨⟨S_43, rfl, ⟨hTy, hFr⟩, by rw [ht]; exact hW.1, va_K.moved h9.alike hK, hW.2.1⟩, hW.2.2.F ht⟩) hW.2.2.2.2 dX0_copyTrade_60

set_option maxHeartbeats 4000000 in
set_option maxRecDepth 100000 in
theorem s_copyTrade46 (l : Launch) (dC : Nat → ClassId) (dI : Nat → Nat → Nat) (cy : Nat → ClassId) (L : List Nat) (kap : Nat → Nat) (pr : Pr) (S : Nat → va_E) (sz : Nat) (b : Nat) (o : Nat) (i : Nat) (j : Nat) (hTy : Ty cy L kap pr S) (hT_b : TK L kap b 46) (hT_o : TK L kap o 0) (hb_i : i < 40) (hb_j : j < 40) : Met l yX0_copyTrade (wT yX0_copyTrade cX0_copyTrade 4 none) ({ frames := 0, cells := 0, slots := 0, locals := 0 }) (pcN dC dI [.ref b, .ref o, .int (nI i), .int (nI j)] sz (va_pl L S) (cyT cy) NLs []) (va_Qv (fun S' => Ty cy L kap pr S' ∧ Fr kap [20, 21, 22, 23] S S') (fun S' t => pB dC dI (AL L sz) (va_pl L S') (cyT cy) t) (AL L sz)) 0 0 (AL L sz) := by
  refine Met.ofW (cc := cX0_copyTrade) (maxL := 4) (ret := none) (by decide) rfl ?_
  intro p e s m args below meth c s₁ B hml hv
  obtain ⟨rfl, hsz, hP, hK, hD0, hN, -⟩ := hv
  have hx := B.exec
  have hb := B.bytes
  have hr := B.returns
  have hT : ∀ wd ∈ TB, wd.before [.ref b, .ref o, .int (nI i), .int (nI j)].toArray s = true := fun wd h => atoms_spec (ws := wT yX0_copyTrade cX0_copyTrade 4 none) B.pre wd (List.mem_cons_of_mem _ h)
  have hown : s.vm.findClass RX0 = some m.cls := findClass_of_methodNamed B.named
  have hlocks := B.notSynchronized
  subst hsz
  have hW : PW dC dI L (AL L s.heap.size) s.heap S s.heap [] := ⟨hP, pl_self hD0, va_S.rf⟩
  have hA0 : ∀ q, q ∈ L → AL L s.heap.size q := fun _ h => Or.inl h
  have hA : ∀ q, s.heap.size ≤ q → AL L s.heap.size q := fun _ h => Or.inr h
  have hFr : Fr kap [20, 21, 22, 23] S S := Fr.rf
  have hl := lv_entry ([.ref b, .ref o, .int (nI i), .int (nI j)]) (n := 4) (Nat.le_of_ble_eq_true rfl)
  rw [lg_entry_eq]
  generalize (lg_sl ([.ref b, .ref o, .int (nI i), .int (nI j)]) ++ List.replicate (4 - (lg_sl ([.ref b, .ref o, .int (nI i), .int (nI j)])).length) Slot.unset).toArray = ls at hl ⊢
  have hl : lv_has ls 4 [(0, .ref b), (1, .ref o), (2, .int (nI i)), (3, .int (nI j))] := hl
  refine lv_aload_n hx hb dX0_copyTrade_0 rfl (lv_at hl 0 rfl) ?_
  obtain ⟨x_1, x_2, x_3, x_4, x_5, x_6, x_7, x_8, hS_b, hT_x_1, hT_x_2, hT_x_3, hT_x_4, hT_x_5, hT_x_6, hb_x_7⟩ := hTy.k46 hT_b
  refine pl_get (ci := 0) (v := .ref x_1) (C := RX0) (T := TX0) (N := 8) hx hb hT iX0 hown hK hW hT_b.1 hS_b rfl 0 (by decide) w88 rfl dX0_copyTrade_1 ?_
  refine lv_iload_n hx hb dX0_copyTrade_4 rfl (lv_at hl 3 rfl) ?_
  refine lv_aload_n hx hb dX0_copyTrade_5 rfl (lv_at hl 1 rfl) ?_
  obtain ⟨x_9, x_10, x_11, x_12, x_13, x_14, x_15, x_16, hS_o, hT_x_9, hT_x_10, hT_x_11, hT_x_12, hT_x_13, hT_x_14, hb_x_15⟩ := hTy.k0 hT_o
  refine pl_get (ci := 0) (v := .ref x_9) (C := RX0) (T := TX0) (N := 8) hx hb hT iX0 hown hK hW hT_o.1 hS_o rfl 0 (by decide) w88 rfl dX0_copyTrade_6 ?_
  refine lv_iload_n hx hb dX0_copyTrade_9 rfl (lv_at hl 2 rfl) ?_
  obtain ⟨f_17, hS_x_9, hi_f_17⟩ := hTy.k20 hT_x_9
  refine pl_iald hx hb hK hW hT_x_9.1 hS_x_9 (vp_in_nI (n := i) (N := 40) (by omega) (by omega)) dX0_copyTrade_10 ?_
  refine lv_topi (fun y_18 ey_18 => ?_)
  obtain ⟨k_19, hb_k_19, hq_k_19⟩ := hi_f_17 (i) (by omega)
  obtain rfl : y_18 = nI k_19 := ey_18.trans (by show f_17 (nI (i)).toNatClampNeg = _; rw [nI_clamp (by omega)]; exact hq_k_19)
  obtain ⟨f_20, hS_x_1, hi_f_20⟩ := hTy.k20 hT_x_1
  refine pl_iast hx hb hK hW hT_x_1.1 hS_x_1 (vp_in_nI (n := j) (N := 40) (by omega) (by omega)) dX0_copyTrade_11 (fun H locs f_22 S_21 ef_f_22 e1 hW => ?_)
  have hi_f_22 := inv_up hi_f_20 ef_f_22 ⟨k_19, by omega, rfl⟩
  have hTy := hTy.u20 e1 hT_x_1 ⟨f_22, rfl, hi_f_22⟩
  have hS_b := un e1 hT_b hT_x_1 (by decide) hS_b
  have hS_o := un e1 hT_o hT_x_1 (by decide) hS_o
  have hFr := uf hFr e1 hT_x_1 (by decide) (by decide)
  have hS_x_1 := us e1
  refine lv_aload_n hx hb dX0_copyTrade_12 rfl (lv_at hl 0 rfl) ?_
  refine pl_get (ci := 0) (v := .ref x_2) (C := RX0) (T := TX0) (N := 8) hx hb hT iX0 hown hK hW hT_b.1 hS_b rfl 1 (by decide) w92 rfl dX0_copyTrade_13 ?_
  refine lv_iload_n hx hb dX0_copyTrade_16 rfl (lv_at hl 3 rfl) ?_
  refine lv_aload_n hx hb dX0_copyTrade_17 rfl (lv_at hl 1 rfl) ?_
  refine pl_get (ci := 0) (v := .ref x_10) (C := RX0) (T := TX0) (N := 8) hx hb hT iX0 hown hK hW hT_o.1 hS_o rfl 1 (by decide) w92 rfl dX0_copyTrade_18 ?_
  refine lv_iload_n hx hb dX0_copyTrade_21 rfl (lv_at hl 2 rfl) ?_
  obtain ⟨f_23, hS_x_10, hi_f_23⟩ := hTy.k20 hT_x_10
  refine pl_iald hx hb hK hW hT_x_10.1 hS_x_10 (vp_in_nI (n := i) (N := 40) (by omega) (by omega)) dX0_copyTrade_22 ?_
  refine lv_topi (fun y_24 ey_24 => ?_)
  obtain ⟨k_25, hb_k_25, hq_k_25⟩ := hi_f_23 (i) (by omega)
  obtain rfl : y_24 = nI k_25 := ey_24.trans (by show f_23 (nI (i)).toNatClampNeg = _; rw [nI_clamp (by omega)]; exact hq_k_25)
  obtain ⟨f_26, hS_x_2, hi_f_26⟩ := hTy.k20 hT_x_2
  refine pl_iast hx hb hK hW hT_x_2.1 hS_x_2 (vp_in_nI (n := j) (N := 40) (by omega) (by omega)) dX0_copyTrade_23 (fun H locs f_28 S_27 ef_f_28 e1 hW => ?_)
  have hi_f_28 := inv_up hi_f_26 ef_f_28 ⟨k_25, by omega, rfl⟩
  have hTy := hTy.u20 e1 hT_x_2 ⟨f_28, rfl, hi_f_28⟩
  have hS_b := un e1 hT_b hT_x_2 (by decide) hS_b
  have hS_o := un e1 hT_o hT_x_2 (by decide) hS_o
  have hFr := uf hFr e1 hT_x_2 (by decide) (by decide)
  have hS_x_2 := us e1
  refine lv_aload_n hx hb dX0_copyTrade_24 rfl (lv_at hl 0 rfl) ?_
  refine pl_get (ci := 0) (v := .ref x_4) (C := RX0) (T := TX0) (N := 8) hx hb hT iX0 hown hK hW hT_b.1 hS_b rfl 3 (by decide) w100 rfl dX0_copyTrade_25 ?_
  refine lv_iload_n hx hb dX0_copyTrade_28 rfl (lv_at hl 3 rfl) ?_
  refine lv_aload_n hx hb dX0_copyTrade_29 rfl (lv_at hl 1 rfl) ?_
  refine pl_get (ci := 0) (v := .ref x_12) (C := RX0) (T := TX0) (N := 8) hx hb hT iX0 hown hK hW hT_o.1 hS_o rfl 3 (by decide) w100 rfl dX0_copyTrade_30 ?_
  refine lv_iload_n hx hb dX0_copyTrade_33 rfl (lv_at hl 2 rfl) ?_
  obtain ⟨f_29, hS_x_12⟩ := hTy.k22 hT_x_12
  refine pl_lald hx hb hK hW hT_x_12.1 hS_x_12 (vp_in_nI (n := i) (N := 40) (by omega) (by omega)) dX0_copyTrade_34 ?_
  refine lv_topl (fun y_30 ey_30 => ?_)
  obtain ⟨f_31, hS_x_4⟩ := hTy.k22 hT_x_4
  refine pl_last hx hb hK hW hT_x_4.1 hS_x_4 (vp_in_nI (n := j) (N := 40) (by omega) (by omega)) dX0_copyTrade_35 (fun H locs f_33 S_32 ef_f_33 e1 hW => ?_)
  have hTy := hTy.u22 e1 hT_x_4 ⟨f_33, rfl⟩
  have hS_b := un e1 hT_b hT_x_4 (by decide) hS_b
  have hS_o := un e1 hT_o hT_x_4 (by decide) hS_o
  have hS_x_2 := un e1 hT_x_2 hT_x_4 (by decide) hS_x_2
  have hFr := uf hFr e1 hT_x_4 (by decide) (by decide)
  have hS_x_4 := us e1
  refine lv_aload_n hx hb dX0_copyTrade_36 rfl (lv_at hl 0 rfl) ?_
  refine pl_get (ci := 0) (v := .ref x_3) (C := RX0) (T := TX0) (N := 8) hx hb hT iX0 hown hK hW hT_b.1 hS_b rfl 2 (by decide) w96 rfl dX0_copyTrade_37 ?_
  refine lv_iload_n hx hb dX0_copyTrade_40 rfl (lv_at hl 3 rfl) ?_
  refine lv_aload_n hx hb dX0_copyTrade_41 rfl (lv_at hl 1 rfl) ?_
  refine pl_get (ci := 0) (v := .ref x_11) (C := RX0) (T := TX0) (N := 8) hx hb hT iX0 hown hK hW hT_o.1 hS_o rfl 2 (by decide) w96 rfl dX0_copyTrade_42 ?_
  refine lv_iload_n hx hb dX0_copyTrade_45 rfl (lv_at hl 2 rfl) ?_
  obtain ⟨f_34, hS_x_11, hi_f_34⟩ := hTy.k21 hT_x_11
  refine pl_iald hx hb hK hW hT_x_11.1 hS_x_11 (vp_in_nI (n := i) (N := 40) (by omega) (by omega)) dX0_copyTrade_46 ?_
  refine lv_topi (fun y_35 ey_35 => ?_)
  obtain ⟨k_36, hb_k_36, hq_k_36⟩ := hi_f_34 (i) (by omega)
  obtain rfl : y_35 = nI k_36 := ey_35.trans (by show f_34 (nI (i)).toNatClampNeg = _; rw [nI_clamp (by omega)]; exact hq_k_36)
  obtain ⟨f_37, hS_x_3, hi_f_37⟩ := hTy.k21 hT_x_3
  refine pl_iast hx hb hK hW hT_x_3.1 hS_x_3 (vp_in_nI (n := j) (N := 40) (by omega) (by omega)) dX0_copyTrade_47 (fun H locs f_39 S_38 ef_f_39 e1 hW => ?_)
  have hi_f_39 := inv_up hi_f_37 ef_f_39 ⟨k_36, by omega, rfl⟩
  have hTy := hTy.u21 e1 hT_x_3 ⟨f_39, rfl, hi_f_39⟩
  have hS_b := un e1 hT_b hT_x_3 (by decide) hS_b
  have hS_o := un e1 hT_o hT_x_3 (by decide) hS_o
  have hS_x_2 := un e1 hT_x_2 hT_x_3 (by decide) hS_x_2
  have hS_x_4 := un e1 hT_x_4 hT_x_3 (by decide) hS_x_4
  have hFr := uf hFr e1 hT_x_3 (by decide) (by decide)
  have hS_x_3 := us e1
  refine lv_aload_n hx hb dX0_copyTrade_48 rfl (lv_at hl 0 rfl) ?_
  refine pl_get (ci := 0) (v := .ref x_5) (C := RX0) (T := TX0) (N := 8) hx hb hT iX0 hown hK hW hT_b.1 hS_b rfl 4 (by decide) w104 rfl dX0_copyTrade_49 ?_
  refine lv_iload_n hx hb dX0_copyTrade_52 rfl (lv_at hl 3 rfl) ?_
  refine lv_aload_n hx hb dX0_copyTrade_53 rfl (lv_at hl 1 rfl) ?_
  refine pl_get (ci := 0) (v := .ref x_13) (C := RX0) (T := TX0) (N := 8) hx hb hT iX0 hown hK hW hT_o.1 hS_o rfl 4 (by decide) w104 rfl dX0_copyTrade_54 ?_
  refine lv_iload_n hx hb dX0_copyTrade_57 rfl (lv_at hl 2 rfl) ?_
  obtain ⟨f_40, hS_x_13⟩ := hTy.k23 hT_x_13
  refine pl_zald hx hb hK hW hT_x_13.1 hS_x_13 (vp_in_nI (n := i) (N := 40) (by omega) (by omega)) dX0_copyTrade_58 ?_
  refine lv_topi (fun y_41 ey_41 => ?_)
  obtain ⟨f_42, hS_x_5⟩ := hTy.k23 hT_x_5
  refine pl_zast hx hb hK hW hT_x_5.1 hS_x_5 (vp_in_nI (n := j) (N := 40) (by omega) (by omega)) dX0_copyTrade_59 (fun H locs f_44 S_43 ef_f_44 e1 hW => ?_)
  have hTy := hTy.u23 e1 hT_x_5 ⟨f_44, rfl⟩
  have hS_b := un e1 hT_b hT_x_5 (by decide) hS_b
  have hS_o := un e1 hT_o hT_x_5 (by decide) hS_o
  have hS_x_2 := un e1 hT_x_2 hT_x_5 (by decide) hS_x_2
  have hS_x_4 := un e1 hT_x_4 hT_x_5 (by decide) hS_x_4
  have hS_x_3 := un e1 hT_x_3 hT_x_5 (by decide) hS_x_3
  have hFr := uf hFr e1 hT_x_5 (by decide) (by decide)
  have hS_x_5 := us e1
  exact W.vret hx hb hr (fun t ht h9 => ⟨⟨S_43, rfl, ⟨hTy, hFr⟩, by rw [ht]; exact hW.1, va_K.moved h9.alike hK, hW.2.1⟩, hW.2.2.F ht⟩) hW.2.2.2.2 dX0_copyTrade_60

set_option maxHeartbeats 4000000 in
set_option maxRecDepth 100000 in
theorem s_copyFrom46 (l : Launch) (dC : Nat → ClassId) (dI : Nat → Nat → Nat) (cy : Nat → ClassId) (L : List Nat) (kap : Nat → Nat) (pr : Pr) (S : Nat → va_E) (sz : Nat) (b : Nat) (o : Nat) (hTy : Ty cy L kap pr S) (hT_b : TK L kap b 46) (hT_o : TK L kap o 0) : Met l yX0_copyFrom (wT yX0_copyFrom cX0_copyFrom 3 none) ({ frames := 1, cells := 0, slots := 0, locals := 40 }) (pcN dC dI [.ref b, .ref o] sz (va_pl L S) (cyT cy) NLs []) (va_Qv (fun S' => Ty cy L kap pr S' ∧ Fr kap [20, 21, 22, 23, 24, 46] S S') (fun S' t => pB dC dI (AL L sz) (va_pl L S') (cyT cy) t) (AL L sz)) 0 0 (AL L sz) := by
  refine Met.ofW (cc := cX0_copyFrom) (maxL := 3) (ret := none) (by decide) rfl ?_
  intro p e s m args below meth c s₁ B hml hv
  obtain ⟨rfl, hsz, hP, hK, hD0, hN, -⟩ := hv
  have hx := B.exec
  have hb := B.bytes
  have hr := B.returns
  have hT : ∀ wd ∈ TB, wd.before [.ref b, .ref o].toArray s = true := fun wd h => atoms_spec (ws := wT yX0_copyFrom cX0_copyFrom 3 none) B.pre wd (List.mem_cons_of_mem _ h)
  have hown : s.vm.findClass RX0 = some m.cls := findClass_of_methodNamed B.named
  have hlocks := B.notSynchronized
  subst hsz
  have hW : PW dC dI L (AL L s.heap.size) s.heap S s.heap [] := ⟨hP, pl_self hD0, va_S.rf⟩
  have hA0 : ∀ q, q ∈ L → AL L s.heap.size q := fun _ h => Or.inl h
  have hA : ∀ q, s.heap.size ≤ q → AL L s.heap.size q := fun _ h => Or.inr h
  have hFr : Fr kap [20, 21, 22, 23, 24, 46] S S := Fr.rf
  have hl := lv_entry ([.ref b, .ref o]) (n := 3) (Nat.le_of_ble_eq_true rfl)
  rw [lg_entry_eq]
  generalize (lg_sl ([.ref b, .ref o]) ++ List.replicate (3 - (lg_sl ([.ref b, .ref o])).length) Slot.unset).toArray = ls at hl ⊢
  have hl : lv_has ls 3 [(0, .ref b), (1, .ref o)] := hl
  refine lv_iconst (v := 0) hx hb dX0_copyFrom_0 (by decide) ?_
  refine lv_istore_n (lv' := [(2, .int 0), (0, .ref b), (1, .ref o)]) hx hb dX0_copyFrom_1 rfl hl (by decide) rfl (fun ls hl => ?_)
  have loop : ∀ (fuel : Nat) (i : Nat) (SS : Nat → va_E) (H : Heap) (locs : List Loc) (ls : Array Slot), 40 - i < fuel → (i ≤ 40) → Ty cy L kap pr SS → Fr kap [20, 21, 22, 23, 24, 46] S SS → Fr kap [20, 21, 22, 23, 24, 46] S SS → PW dC dI L (AL L s.heap.size) s.heap SS H locs → lv_has ls 3 [(2, .int (nI i)), (0, .ref b), (1, .ref o)] → W p l e (headSpec (wT yX0_copyFrom cX0_copyFrom 3 none) { frames := 1, cells := 0, slots := 0, locals := 40 }).room s m [.ref b, .ref o].toArray below meth c H locs 0 0 (MQ below (va_Qv (fun S' => Ty cy L kap pr S' ∧ Fr kap [20, 21, 22, 23, 24, 46] S S') (fun S' t => pB dC dI (AL L s.heap.size) (va_pl L S') (cyT cy) t) (AL L s.heap.size)) [.ref b, .ref o].toArray s 0 0 (AL L s.heap.size)) (F0 m 2 ls []) := by
    intro fuel
    induction fuel with
    | zero => intro i SS H locs ls h; exact absurd h (Nat.not_lt_zero _)
    | succ fu2 ih2 =>
      intro i S_1 H locs ls hm2 hb_i hTy hFr hFl2 hW hl
      refine lv_iload_n hx hb dX0_copyFrom_2 rfl (lv_at hl 0 rfl) ?_
      refine lv_aload_n hx hb dX0_copyFrom_3 rfl (lv_at hl 2 rfl) ?_
      obtain ⟨x_2, x_3, x_4, x_5, x_6, x_7, x_8, x_9, hS_o, hT_x_2, hT_x_3, hT_x_4, hT_x_5, hT_x_6, hT_x_7, hb_x_8⟩ := hTy.k0 hT_o
      refine pl_get (ci := 0) (v := .int (nI x_8)) (C := RX0) (T := TX0) (N := 8) hx hb hT iX0 hown hK hW hT_o.1 hS_o rfl 6 (by decide) w112 rfl dX0_copyFrom_4 ?_
      refine lv_icmp_ge (tgt := 23) hx hb dX0_copyFrom_7 (by decide) (fun c_7 => ?_) (fun c_7 => ?_)
      · have c_7 : x_8 ≤ i := (nI_leI (a := x_8) (b := i) (by omega) (by omega)).mp c_7
        refine lv_aload_n hx hb dX0_copyFrom_23 rfl (lv_at hl 2 rfl) ?_
        refine pl_get (ci := 0) (v := .ref x_7) (C := RX0) (T := TX0) (N := 8) hx hb hT iX0 hown hK hW hT_o.1 hS_o rfl 5 (by decide) w109 rfl dX0_copyFrom_24 ?_
        refine lv_iconst (v := 0) hx hb dX0_copyFrom_27 (by decide) ?_
        refine lv_aload_n hx hb dX0_copyFrom_28 rfl (lv_at hl 1 rfl) ?_
        obtain ⟨x_10, x_11, x_12, x_13, x_14, x_15, x_16, x_17, hS_b, hT_x_10, hT_x_11, hT_x_12, hT_x_13, hT_x_14, hT_x_15, hb_x_16⟩ := hTy.k46 hT_b
        refine pl_get (ci := 0) (v := .ref x_15) (C := RX0) (T := TX0) (N := 8) hx hb hT iX0 hown hK hW hT_b.1 hS_b rfl 5 (by decide) w109 rfl dX0_copyFrom_29 ?_
        refine lv_iconst (v := 0) hx hb dX0_copyFrom_32 (by decide) ?_
        refine lv_bipush (v := 64) hx hb dX0_copyFrom_33 (by decide) ?_
        obtain ⟨f_18, hS_x_7⟩ := hTy.k24 hT_x_7
        obtain ⟨f_19, hS_x_15⟩ := hTy.k24 hT_x_15
        refine pl_copyi hx hb (hml.trans hl.1.symm) hown (hT _ w631) (hT _ w633) (hT _ w632) (hT _ w20) hK hW hT_x_7.1 hT_x_15.1 hS_x_7 hS_x_15 (by decide) (by decide) (by decide) (by decide) (by decide) (Nat.le_of_ble_eq_true rfl) (Nat.le_of_ble_eq_true rfl) dX0_copyFrom_35 (fun H locs f_21 S_20 ef_f_21 e1 hW => ?_)
        have hTy := hTy.u24 e1 hT_x_15 ⟨f_21, rfl⟩
        have hS_o := un e1 hT_o hT_x_15 (by decide) hS_o
        have hS_b := un e1 hT_b hT_x_15 (by decide) hS_b
        have hFr := uf hFr e1 hT_x_15 (by decide) (by decide)
        have hFl2 := uf hFl2 e1 hT_x_15 (by decide) (by decide)
        have hS_x_15 := us e1
        refine lv_aload_n hx hb dX0_copyFrom_38 rfl (lv_at hl 1 rfl) ?_
        refine lv_aload_n hx hb dX0_copyFrom_39 rfl (lv_at hl 2 rfl) ?_
        refine pl_get (ci := 0) (v := .int (nI x_8)) (C := RX0) (T := TX0) (N := 8) hx hb hT iX0 hown hK hW hT_o.1 hS_o rfl 6 (by decide) w112 rfl dX0_copyFrom_40 ?_
        refine pl_put (ci := 0) (v := .int (nI x_8)) (ty := .int) (C := RX0) (T := TX0) (N := 8) (fs' := [.ref x_10, .ref x_11, .ref x_12, .ref x_13, .ref x_14, .ref x_15, .int (nI x_8), .int x_17]) hx hb hT iX0 tyX0 tyX0_ok nmX0 hown hK hW hT_b.1 hS_b rfl 6 (by decide) w112 rfl (by decide +kernel) rfl rfl (Nat.le_of_ble_eq_true rfl) rfl dX0_copyFrom_43 (fun H locs S_22 e1 hW => ?_)
        have hTy := hTy.u46 e1 hT_b ⟨x_10, x_11, x_12, x_13, x_14, x_15, x_8, x_17, rfl, hT_x_10, hT_x_11, hT_x_12, hT_x_13, hT_x_14, hT_x_15, (by omega)⟩
        have hS_o := un e1 hT_o hT_b (by decide) hS_o
        have hS_x_15 := un e1 hT_x_15 hT_b (by decide) hS_x_15
        have hFr := uf hFr e1 hT_b (by decide) (by decide)
        have hFl2 := uf hFl2 e1 hT_b (by decide) (by decide)
        have hS_b := us e1
        refine lv_aload_n hx hb dX0_copyFrom_46 rfl (lv_at hl 1 rfl) ?_
        refine lv_aload_n hx hb dX0_copyFrom_47 rfl (lv_at hl 2 rfl) ?_
        refine pl_get (ci := 0) (v := .int x_9) (C := RX0) (T := TX0) (N := 8) hx hb hT iX0 hown hK hW hT_o.1 hS_o rfl 7 (by decide) w116 rfl dX0_copyFrom_48 ?_
        refine pl_put (ci := 0) (v := .int x_9) (ty := .int) (C := RX0) (T := TX0) (N := 8) (fs' := [.ref x_10, .ref x_11, .ref x_12, .ref x_13, .ref x_14, .ref x_15, .int (nI x_8), .int x_9]) hx hb hT iX0 tyX0 tyX0_ok nmX0 hown hK hW hT_b.1 hS_b rfl 7 (by decide) w116 rfl (by decide +kernel) rfl rfl (Nat.le_of_ble_eq_true rfl) rfl dX0_copyFrom_51 (fun H locs S_23 e1 hW => ?_)
        have hTy := hTy.u46 e1 hT_b ⟨x_10, x_11, x_12, x_13, x_14, x_15, x_8, x_9, rfl, hT_x_10, hT_x_11, hT_x_12, hT_x_13, hT_x_14, hT_x_15, (by omega)⟩
        have hS_o := un e1 hT_o hT_b (by decide) hS_o
        have hS_x_15 := un e1 hT_x_15 hT_b (by decide) hS_x_15
        have hFr := uf hFr e1 hT_b (by decide) (by decide)
        have hFl2 := uf hFl2 e1 hT_b (by decide) (by decide)
        have hS_b := us e1
        exact W.vret hx hb hr (fun t ht h9 => ⟨⟨S_23, rfl, ⟨hTy, hFr⟩, by rw [ht]; exact hW.1, va_K.moved h9.alike hK, hW.2.1⟩, hW.2.2.F ht⟩) hW.2.2.2.2 dX0_copyFrom_54
      · have c_7 : ¬ (x_8 ≤ i) := fun hh9 => c_7 ((nI_leI (a := x_8) (b := i) (by omega) (by omega)).mpr hh9)
        refine lv_aload_n hx hb dX0_copyFrom_10 rfl (lv_at hl 1 rfl) ?_
        refine lv_aload_n hx hb dX0_copyFrom_11 rfl (lv_at hl 2 rfl) ?_
        refine lv_iload_n hx hb dX0_copyFrom_12 rfl (lv_at hl 0 rfl) ?_
        refine lv_iload_n hx hb dX0_copyFrom_13 rfl (lv_at hl 0 rfl) ?_
        obtain ⟨x_24, x_25, x_26, x_27, x_28, x_29, x_30, x_31, hS_b, hT_x_24, hT_x_25, hT_x_26, hT_x_27, hT_x_28, hT_x_29, hb_x_30⟩ := hTy.k46 hT_b
        refine pl_callv (va_runV (As := [.ref o, .int (nI i), .int (nI i)]) (rest := []) ⟨hx, hb, hml, hown, hT⟩ (s_copyTrade46 l dC dI cy L kap pr S_1 H.size b o i i hTy hT_b hT_o (by omega) (by omega)) (cwV 3 hT (gV w627 w629 ws27 w5 w630) rfl rfl rfl (by decide +kernel) ⟨(Nat.le_of_ble_eq_true rfl), (Nat.le_of_ble_eq_true rfl)⟩) ⟨pcN.blind, pl_recv hK hW hT_b.1 hS_b rfl, pcN.pre hW.1 hK hW.2.1 hN (fun q h => absurd h List.not_mem_nil)⟩ rfl rfl hl.1 rfl (lv_room (Nat.le_of_ble_eq_true rfl)) dX0_copyFrom_14 ⟨(Nat.le_of_ble_eq_true rfl), (Nat.le_of_ble_eq_true rfl)⟩) hW hA0 hA (fun S_32 H locs hrel hW => ?_)
        obtain ⟨hTy, hF1⟩ := hrel
        have hFr := hFr.tr hF1 (by decide)
        have hFl2 := hFl2.tr hF1 (by decide)
        have hS_o := hF1.at hT_o (by decide) hS_o
        have hS_b := hF1.at hT_b (by decide) hS_b
        refine lv_iinc (v := nI (i + 1)) (lv' := [(2, .int (nI (i + 1))), (0, .ref b), (1, .ref o)]) hx hb dX0_copyFrom_17 hl (k := 0) rfl (nI_add (i) 1) (by decide) rfl (fun ls hl => ?_)
        refine lv_goto (tgt := 2) hx hb dX0_copyFrom_20 (by decide) ?_
        exact ih2 (i + 1) _ _ _ ls (by omega) (by omega) hTy hFr hFl2 hW (lv_sub hl [0, 1, 2] rfl)
  exact loop ((40 - 0) + 1) 0 _ _ _ ls (Nat.lt_succ_self _) (by omega) hTy hFr Fr.rf hW (lv_sub hl [0, 1, 2] rfl)

set_option maxHeartbeats 4000000 in
set_option maxRecDepth 100000 in
theorem s_copyTrade0 (l : Launch) (dC : Nat → ClassId) (dI : Nat → Nat → Nat) (cy : Nat → ClassId) (L : List Nat) (kap : Nat → Nat) (pr : Pr) (S : Nat → va_E) (sz : Nat) (b : Nat) (o : Nat) (i : Nat) (j : Nat) (hTy : Ty cy L kap pr S) (hT_b : TK L kap b 0) (hT_o : TK L kap o 46) (hb_i : i < 40) (hb_j : j < 40) : Met l yX0_copyTrade (wT yX0_copyTrade cX0_copyTrade 4 none) ({ frames := 0, cells := 0, slots := 0, locals := 0 }) (pcN dC dI [.ref b, .ref o, .int (nI i), .int (nI j)] sz (va_pl L S) (cyT cy) NLs []) (va_Qv (fun S' => Ty cy L kap pr S' ∧ Fr kap [20, 21, 22, 23] S S') (fun S' t => pB dC dI (AL L sz) (va_pl L S') (cyT cy) t) (AL L sz)) 0 0 (AL L sz) := by
  refine Met.ofW (cc := cX0_copyTrade) (maxL := 4) (ret := none) (by decide) rfl ?_
  intro p e s m args below meth c s₁ B hml hv
  obtain ⟨rfl, hsz, hP, hK, hD0, hN, -⟩ := hv
  have hx := B.exec
  have hb := B.bytes
  have hr := B.returns
  have hT : ∀ wd ∈ TB, wd.before [.ref b, .ref o, .int (nI i), .int (nI j)].toArray s = true := fun wd h => atoms_spec (ws := wT yX0_copyTrade cX0_copyTrade 4 none) B.pre wd (List.mem_cons_of_mem _ h)
  have hown : s.vm.findClass RX0 = some m.cls := findClass_of_methodNamed B.named
  have hlocks := B.notSynchronized
  subst hsz
  have hW : PW dC dI L (AL L s.heap.size) s.heap S s.heap [] := ⟨hP, pl_self hD0, va_S.rf⟩
  have hA0 : ∀ q, q ∈ L → AL L s.heap.size q := fun _ h => Or.inl h
  have hA : ∀ q, s.heap.size ≤ q → AL L s.heap.size q := fun _ h => Or.inr h
  have hFr : Fr kap [20, 21, 22, 23] S S := Fr.rf
  have hl := lv_entry ([.ref b, .ref o, .int (nI i), .int (nI j)]) (n := 4) (Nat.le_of_ble_eq_true rfl)
  rw [lg_entry_eq]
  generalize (lg_sl ([.ref b, .ref o, .int (nI i), .int (nI j)]) ++ List.replicate (4 - (lg_sl ([.ref b, .ref o, .int (nI i), .int (nI j)])).length) Slot.unset).toArray = ls at hl ⊢
  have hl : lv_has ls 4 [(0, .ref b), (1, .ref o), (2, .int (nI i)), (3, .int (nI j))] := hl
  refine lv_aload_n hx hb dX0_copyTrade_0 rfl (lv_at hl 0 rfl) ?_
  obtain ⟨x_1, x_2, x_3, x_4, x_5, x_6, x_7, x_8, hS_b, hT_x_1, hT_x_2, hT_x_3, hT_x_4, hT_x_5, hT_x_6, hb_x_7⟩ := hTy.k0 hT_b
  refine pl_get (ci := 0) (v := .ref x_1) (C := RX0) (T := TX0) (N := 8) hx hb hT iX0 hown hK hW hT_b.1 hS_b rfl 0 (by decide) w88 rfl dX0_copyTrade_1 ?_
  refine lv_iload_n hx hb dX0_copyTrade_4 rfl (lv_at hl 3 rfl) ?_
  refine lv_aload_n hx hb dX0_copyTrade_5 rfl (lv_at hl 1 rfl) ?_
  obtain ⟨x_9, x_10, x_11, x_12, x_13, x_14, x_15, x_16, hS_o, hT_x_9, hT_x_10, hT_x_11, hT_x_12, hT_x_13, hT_x_14, hb_x_15⟩ := hTy.k46 hT_o
  refine pl_get (ci := 0) (v := .ref x_9) (C := RX0) (T := TX0) (N := 8) hx hb hT iX0 hown hK hW hT_o.1 hS_o rfl 0 (by decide) w88 rfl dX0_copyTrade_6 ?_
  refine lv_iload_n hx hb dX0_copyTrade_9 rfl (lv_at hl 2 rfl) ?_
  obtain ⟨f_17, hS_x_9, hi_f_17⟩ := hTy.k20 hT_x_9
  refine pl_iald hx hb hK hW hT_x_9.1 hS_x_9 (vp_in_nI (n := i) (N := 40) (by omega) (by omega)) dX0_copyTrade_10 ?_
  refine lv_topi (fun y_18 ey_18 => ?_)
  obtain ⟨k_19, hb_k_19, hq_k_19⟩ := hi_f_17 (i) (by omega)
  obtain rfl : y_18 = nI k_19 := ey_18.trans (by show f_17 (nI (i)).toNatClampNeg = _; rw [nI_clamp (by omega)]; exact hq_k_19)
  obtain ⟨f_20, hS_x_1, hi_f_20⟩ := hTy.k20 hT_x_1
  refine pl_iast hx hb hK hW hT_x_1.1 hS_x_1 (vp_in_nI (n := j) (N := 40) (by omega) (by omega)) dX0_copyTrade_11 (fun H locs f_22 S_21 ef_f_22 e1 hW => ?_)
  have hi_f_22 := inv_up hi_f_20 ef_f_22 ⟨k_19, by omega, rfl⟩
  have hTy := hTy.u20 e1 hT_x_1 ⟨f_22, rfl, hi_f_22⟩
  have hS_b := un e1 hT_b hT_x_1 (by decide) hS_b
  have hS_o := un e1 hT_o hT_x_1 (by decide) hS_o
  have hFr := uf hFr e1 hT_x_1 (by decide) (by decide)
  have hS_x_1 := us e1
  refine lv_aload_n hx hb dX0_copyTrade_12 rfl (lv_at hl 0 rfl) ?_
  refine pl_get (ci := 0) (v := .ref x_2) (C := RX0) (T := TX0) (N := 8) hx hb hT iX0 hown hK hW hT_b.1 hS_b rfl 1 (by decide) w92 rfl dX0_copyTrade_13 ?_
  refine lv_iload_n hx hb dX0_copyTrade_16 rfl (lv_at hl 3 rfl) ?_
  refine lv_aload_n hx hb dX0_copyTrade_17 rfl (lv_at hl 1 rfl) ?_
  refine pl_get (ci := 0) (v := .ref x_10) (C := RX0) (T := TX0) (N := 8) hx hb hT iX0 hown hK hW hT_o.1 hS_o rfl 1 (by decide) w92 rfl dX0_copyTrade_18 ?_
  refine lv_iload_n hx hb dX0_copyTrade_21 rfl (lv_at hl 2 rfl) ?_
  obtain ⟨f_23, hS_x_10, hi_f_23⟩ := hTy.k20 hT_x_10
  refine pl_iald hx hb hK hW hT_x_10.1 hS_x_10 (vp_in_nI (n := i) (N := 40) (by omega) (by omega)) dX0_copyTrade_22 ?_
  refine lv_topi (fun y_24 ey_24 => ?_)
  obtain ⟨k_25, hb_k_25, hq_k_25⟩ := hi_f_23 (i) (by omega)
  obtain rfl : y_24 = nI k_25 := ey_24.trans (by show f_23 (nI (i)).toNatClampNeg = _; rw [nI_clamp (by omega)]; exact hq_k_25)
  obtain ⟨f_26, hS_x_2, hi_f_26⟩ := hTy.k20 hT_x_2
  refine pl_iast hx hb hK hW hT_x_2.1 hS_x_2 (vp_in_nI (n := j) (N := 40) (by omega) (by omega)) dX0_copyTrade_23 (fun H locs f_28 S_27 ef_f_28 e1 hW => ?_)
  have hi_f_28 := inv_up hi_f_26 ef_f_28 ⟨k_25, by omega, rfl⟩
  have hTy := hTy.u20 e1 hT_x_2 ⟨f_28, rfl, hi_f_28⟩
  have hS_b := un e1 hT_b hT_x_2 (by decide) hS_b
  have hS_o := un e1 hT_o hT_x_2 (by decide) hS_o
  have hFr := uf hFr e1 hT_x_2 (by decide) (by decide)
  have hS_x_2 := us e1
  refine lv_aload_n hx hb dX0_copyTrade_24 rfl (lv_at hl 0 rfl) ?_
  refine pl_get (ci := 0) (v := .ref x_4) (C := RX0) (T := TX0) (N := 8) hx hb hT iX0 hown hK hW hT_b.1 hS_b rfl 3 (by decide) w100 rfl dX0_copyTrade_25 ?_
  refine lv_iload_n hx hb dX0_copyTrade_28 rfl (lv_at hl 3 rfl) ?_
  refine lv_aload_n hx hb dX0_copyTrade_29 rfl (lv_at hl 1 rfl) ?_
  refine pl_get (ci := 0) (v := .ref x_12) (C := RX0) (T := TX0) (N := 8) hx hb hT iX0 hown hK hW hT_o.1 hS_o rfl 3 (by decide) w100 rfl dX0_copyTrade_30 ?_
  refine lv_iload_n hx hb dX0_copyTrade_33 rfl (lv_at hl 2 rfl) ?_
  obtain ⟨f_29, hS_x_12⟩ := hTy.k22 hT_x_12
  refine pl_lald hx hb hK hW hT_x_12.1 hS_x_12 (vp_in_nI (n := i) (N := 40) (by omega) (by omega)) dX0_copyTrade_34 ?_
  refine lv_topl (fun y_30 ey_30 => ?_)
  obtain ⟨f_31, hS_x_4⟩ := hTy.k22 hT_x_4
  refine pl_last hx hb hK hW hT_x_4.1 hS_x_4 (vp_in_nI (n := j) (N := 40) (by omega) (by omega)) dX0_copyTrade_35 (fun H locs f_33 S_32 ef_f_33 e1 hW => ?_)
  have hTy := hTy.u22 e1 hT_x_4 ⟨f_33, rfl⟩
  have hS_b := un e1 hT_b hT_x_4 (by decide) hS_b
  have hS_o := un e1 hT_o hT_x_4 (by decide) hS_o
  have hS_x_2 := un e1 hT_x_2 hT_x_4 (by decide) hS_x_2
  have hFr := uf hFr e1 hT_x_4 (by decide) (by decide)
  have hS_x_4 := us e1
  refine lv_aload_n hx hb dX0_copyTrade_36 rfl (lv_at hl 0 rfl) ?_
  refine pl_get (ci := 0) (v := .ref x_3) (C := RX0) (T := TX0) (N := 8) hx hb hT iX0 hown hK hW hT_b.1 hS_b rfl 2 (by decide) w96 rfl dX0_copyTrade_37 ?_
  refine lv_iload_n hx hb dX0_copyTrade_40 rfl (lv_at hl 3 rfl) ?_
  refine lv_aload_n hx hb dX0_copyTrade_41 rfl (lv_at hl 1 rfl) ?_
  refine pl_get (ci := 0) (v := .ref x_11) (C := RX0) (T := TX0) (N := 8) hx hb hT iX0 hown hK hW hT_o.1 hS_o rfl 2 (by decide) w96 rfl dX0_copyTrade_42 ?_
  refine lv_iload_n hx hb dX0_copyTrade_45 rfl (lv_at hl 2 rfl) ?_
  obtain ⟨f_34, hS_x_11, hi_f_34⟩ := hTy.k21 hT_x_11
  refine pl_iald hx hb hK hW hT_x_11.1 hS_x_11 (vp_in_nI (n := i) (N := 40) (by omega) (by omega)) dX0_copyTrade_46 ?_
  refine lv_topi (fun y_35 ey_35 => ?_)
  obtain ⟨k_36, hb_k_36, hq_k_36⟩ := hi_f_34 (i) (by omega)
  obtain rfl : y_35 = nI k_36 := ey_35.trans (by show f_34 (nI (i)).toNatClampNeg = _; rw [nI_clamp (by omega)]; exact hq_k_36)
  obtain ⟨f_37, hS_x_3, hi_f_37⟩ := hTy.k21 hT_x_3
  refine pl_iast hx hb hK hW hT_x_3.1 hS_x_3 (vp_in_nI (n := j) (N := 40) (by omega) (by omega)) dX0_copyTrade_47 (fun H locs f_39 S_38 ef_f_39 e1 hW => ?_)
  have hi_f_39 := inv_up hi_f_37 ef_f_39 ⟨k_36, by omega, rfl⟩
  have hTy := hTy.u21 e1 hT_x_3 ⟨f_39, rfl, hi_f_39⟩
  have hS_b := un e1 hT_b hT_x_3 (by decide) hS_b
  have hS_o := un e1 hT_o hT_x_3 (by decide) hS_o
  have hS_x_2 := un e1 hT_x_2 hT_x_3 (by decide) hS_x_2
  have hS_x_4 := un e1 hT_x_4 hT_x_3 (by decide) hS_x_4
  have hFr := uf hFr e1 hT_x_3 (by decide) (by decide)
  have hS_x_3 := us e1
  refine lv_aload_n hx hb dX0_copyTrade_48 rfl (lv_at hl 0 rfl) ?_
  refine pl_get (ci := 0) (v := .ref x_5) (C := RX0) (T := TX0) (N := 8) hx hb hT iX0 hown hK hW hT_b.1 hS_b rfl 4 (by decide) w104 rfl dX0_copyTrade_49 ?_
  refine lv_iload_n hx hb dX0_copyTrade_52 rfl (lv_at hl 3 rfl) ?_
  refine lv_aload_n hx hb dX0_copyTrade_53 rfl (lv_at hl 1 rfl) ?_
  refine pl_get (ci := 0) (v := .ref x_13) (C := RX0) (T := TX0) (N := 8) hx hb hT iX0 hown hK hW hT_o.1 hS_o rfl 4 (by decide) w104 rfl dX0_copyTrade_54 ?_
  refine lv_iload_n hx hb dX0_copyTrade_57 rfl (lv_at hl 2 rfl) ?_
  obtain ⟨f_40, hS_x_13⟩ := hTy.k23 hT_x_13
  refine pl_zald hx hb hK hW hT_x_13.1 hS_x_13 (vp_in_nI (n := i) (N := 40) (by omega) (by omega)) dX0_copyTrade_58 ?_
  refine lv_topi (fun y_41 ey_41 => ?_)
  obtain ⟨f_42, hS_x_5⟩ := hTy.k23 hT_x_5
  refine pl_zast hx hb hK hW hT_x_5.1 hS_x_5 (vp_in_nI (n := j) (N := 40) (by omega) (by omega)) dX0_copyTrade_59 (fun H locs f_44 S_43 ef_f_44 e1 hW => ?_)
  have hTy := hTy.u23 e1 hT_x_5 ⟨f_44, rfl⟩
  have hS_b := un e1 hT_b hT_x_5 (by decide) hS_b
  have hS_o := un e1 hT_o hT_x_5 (by decide) hS_o
  have hS_x_2 := un e1 hT_x_2 hT_x_5 (by decide) hS_x_2
  have hS_x_4 := un e1 hT_x_4 hT_x_5 (by decide) hS_x_4
  have hS_x_3 := un e1 hT_x_3 hT_x_5 (by decide) hS_x_3
  have hFr := uf hFr e1 hT_x_5 (by decide) (by decide)
  have hS_x_5 := us e1
  exact W.vret hx hb hr (fun t ht h9 => ⟨⟨S_43, rfl, ⟨hTy, hFr⟩, by rw [ht]; exact hW.1, va_K.moved h9.alike hK, hW.2.1⟩, hW.2.2.F ht⟩) hW.2.2.2.2 dX0_copyTrade_60

set_option maxHeartbeats 4000000 in
set_option maxRecDepth 100000 in
theorem s_copyFrom0 (l : Launch) (dC : Nat → ClassId) (dI : Nat → Nat → Nat) (cy : Nat → ClassId) (L : List Nat) (kap : Nat → Nat) (pr : Pr) (S : Nat → va_E) (sz : Nat) (b : Nat) (o : Nat) (hTy : Ty cy L kap pr S) (hT_b : TK L kap b 0) (hT_o : TK L kap o 46) : Met l yX0_copyFrom (wT yX0_copyFrom cX0_copyFrom 3 none) ({ frames := 1, cells := 0, slots := 0, locals := 40 }) (pcN dC dI [.ref b, .ref o] sz (va_pl L S) (cyT cy) NLs []) (va_Qv (fun S' => Ty cy L kap pr S' ∧ Fr kap [0, 20, 21, 22, 23, 24] S S') (fun S' t => pB dC dI (AL L sz) (va_pl L S') (cyT cy) t) (AL L sz)) 0 0 (AL L sz) := by
  refine Met.ofW (cc := cX0_copyFrom) (maxL := 3) (ret := none) (by decide) rfl ?_
  intro p e s m args below meth c s₁ B hml hv
  obtain ⟨rfl, hsz, hP, hK, hD0, hN, -⟩ := hv
  have hx := B.exec
  have hb := B.bytes
  have hr := B.returns
  have hT : ∀ wd ∈ TB, wd.before [.ref b, .ref o].toArray s = true := fun wd h => atoms_spec (ws := wT yX0_copyFrom cX0_copyFrom 3 none) B.pre wd (List.mem_cons_of_mem _ h)
  have hown : s.vm.findClass RX0 = some m.cls := findClass_of_methodNamed B.named
  have hlocks := B.notSynchronized
  subst hsz
  have hW : PW dC dI L (AL L s.heap.size) s.heap S s.heap [] := ⟨hP, pl_self hD0, va_S.rf⟩
  have hA0 : ∀ q, q ∈ L → AL L s.heap.size q := fun _ h => Or.inl h
  have hA : ∀ q, s.heap.size ≤ q → AL L s.heap.size q := fun _ h => Or.inr h
  have hFr : Fr kap [0, 20, 21, 22, 23, 24] S S := Fr.rf
  have hl := lv_entry ([.ref b, .ref o]) (n := 3) (Nat.le_of_ble_eq_true rfl)
  rw [lg_entry_eq]
  generalize (lg_sl ([.ref b, .ref o]) ++ List.replicate (3 - (lg_sl ([.ref b, .ref o])).length) Slot.unset).toArray = ls at hl ⊢
  have hl : lv_has ls 3 [(0, .ref b), (1, .ref o)] := hl
  refine lv_iconst (v := 0) hx hb dX0_copyFrom_0 (by decide) ?_
  refine lv_istore_n (lv' := [(2, .int 0), (0, .ref b), (1, .ref o)]) hx hb dX0_copyFrom_1 rfl hl (by decide) rfl (fun ls hl => ?_)
  have loop : ∀ (fuel : Nat) (i : Nat) (SS : Nat → va_E) (H : Heap) (locs : List Loc) (ls : Array Slot), 40 - i < fuel → (i ≤ 40) → Ty cy L kap pr SS → Fr kap [0, 20, 21, 22, 23, 24] S SS → Fr kap [0, 20, 21, 22, 23, 24] S SS → PW dC dI L (AL L s.heap.size) s.heap SS H locs → lv_has ls 3 [(2, .int (nI i)), (0, .ref b), (1, .ref o)] → W p l e (headSpec (wT yX0_copyFrom cX0_copyFrom 3 none) { frames := 1, cells := 0, slots := 0, locals := 40 }).room s m [.ref b, .ref o].toArray below meth c H locs 0 0 (MQ below (va_Qv (fun S' => Ty cy L kap pr S' ∧ Fr kap [0, 20, 21, 22, 23, 24] S S') (fun S' t => pB dC dI (AL L s.heap.size) (va_pl L S') (cyT cy) t) (AL L s.heap.size)) [.ref b, .ref o].toArray s 0 0 (AL L s.heap.size)) (F0 m 2 ls []) := by
    intro fuel
    induction fuel with
    | zero => intro i SS H locs ls h; exact absurd h (Nat.not_lt_zero _)
    | succ fu2 ih2 =>
      intro i S_1 H locs ls hm2 hb_i hTy hFr hFl2 hW hl
      refine lv_iload_n hx hb dX0_copyFrom_2 rfl (lv_at hl 0 rfl) ?_
      refine lv_aload_n hx hb dX0_copyFrom_3 rfl (lv_at hl 2 rfl) ?_
      obtain ⟨x_2, x_3, x_4, x_5, x_6, x_7, x_8, x_9, hS_o, hT_x_2, hT_x_3, hT_x_4, hT_x_5, hT_x_6, hT_x_7, hb_x_8⟩ := hTy.k46 hT_o
      refine pl_get (ci := 0) (v := .int (nI x_8)) (C := RX0) (T := TX0) (N := 8) hx hb hT iX0 hown hK hW hT_o.1 hS_o rfl 6 (by decide) w112 rfl dX0_copyFrom_4 ?_
      refine lv_icmp_ge (tgt := 23) hx hb dX0_copyFrom_7 (by decide) (fun c_7 => ?_) (fun c_7 => ?_)
      · have c_7 : x_8 ≤ i := (nI_leI (a := x_8) (b := i) (by omega) (by omega)).mp c_7
        refine lv_aload_n hx hb dX0_copyFrom_23 rfl (lv_at hl 2 rfl) ?_
        refine pl_get (ci := 0) (v := .ref x_7) (C := RX0) (T := TX0) (N := 8) hx hb hT iX0 hown hK hW hT_o.1 hS_o rfl 5 (by decide) w109 rfl dX0_copyFrom_24 ?_
        refine lv_iconst (v := 0) hx hb dX0_copyFrom_27 (by decide) ?_
        refine lv_aload_n hx hb dX0_copyFrom_28 rfl (lv_at hl 1 rfl) ?_
        obtain ⟨x_10, x_11, x_12, x_13, x_14, x_15, x_16, x_17, hS_b, hT_x_10, hT_x_11, hT_x_12, hT_x_13, hT_x_14, hT_x_15, hb_x_16⟩ := hTy.k0 hT_b
        refine pl_get (ci := 0) (v := .ref x_15) (C := RX0) (T := TX0) (N := 8) hx hb hT iX0 hown hK hW hT_b.1 hS_b rfl 5 (by decide) w109 rfl dX0_copyFrom_29 ?_
        refine lv_iconst (v := 0) hx hb dX0_copyFrom_32 (by decide) ?_
        refine lv_bipush (v := 64) hx hb dX0_copyFrom_33 (by decide) ?_
        obtain ⟨f_18, hS_x_7⟩ := hTy.k24 hT_x_7
        obtain ⟨f_19, hS_x_15⟩ := hTy.k24 hT_x_15
        refine pl_copyi hx hb (hml.trans hl.1.symm) hown (hT _ w631) (hT _ w633) (hT _ w632) (hT _ w20) hK hW hT_x_7.1 hT_x_15.1 hS_x_7 hS_x_15 (by decide) (by decide) (by decide) (by decide) (by decide) (Nat.le_of_ble_eq_true rfl) (Nat.le_of_ble_eq_true rfl) dX0_copyFrom_35 (fun H locs f_21 S_20 ef_f_21 e1 hW => ?_)
        have hTy := hTy.u24 e1 hT_x_15 ⟨f_21, rfl⟩
        have hS_o := un e1 hT_o hT_x_15 (by decide) hS_o
        have hS_b := un e1 hT_b hT_x_15 (by decide) hS_b
        have hFr := uf hFr e1 hT_x_15 (by decide) (by decide)
        have hFl2 := uf hFl2 e1 hT_x_15 (by decide) (by decide)
        have hS_x_15 := us e1
        refine lv_aload_n hx hb dX0_copyFrom_38 rfl (lv_at hl 1 rfl) ?_
        refine lv_aload_n hx hb dX0_copyFrom_39 rfl (lv_at hl 2 rfl) ?_
        refine pl_get (ci := 0) (v := .int (nI x_8)) (C := RX0) (T := TX0) (N := 8) hx hb hT iX0 hown hK hW hT_o.1 hS_o rfl 6 (by decide) w112 rfl dX0_copyFrom_40 ?_
        refine pl_put (ci := 0) (v := .int (nI x_8)) (ty := .int) (C := RX0) (T := TX0) (N := 8) (fs' := [.ref x_10, .ref x_11, .ref x_12, .ref x_13, .ref x_14, .ref x_15, .int (nI x_8), .int x_17]) hx hb hT iX0 tyX0 tyX0_ok nmX0 hown hK hW hT_b.1 hS_b rfl 6 (by decide) w112 rfl (by decide +kernel) rfl rfl (Nat.le_of_ble_eq_true rfl) rfl dX0_copyFrom_43 (fun H locs S_22 e1 hW => ?_)
        have hTy := hTy.u0 e1 hT_b ⟨x_10, x_11, x_12, x_13, x_14, x_15, x_8, x_17, rfl, hT_x_10, hT_x_11, hT_x_12, hT_x_13, hT_x_14, hT_x_15, (by omega)⟩
        have hS_o := un e1 hT_o hT_b (by decide) hS_o
        have hS_x_15 := un e1 hT_x_15 hT_b (by decide) hS_x_15
        have hFr := uf hFr e1 hT_b (by decide) (by decide)
        have hFl2 := uf hFl2 e1 hT_b (by decide) (by decide)
        have hS_b := us e1
        refine lv_aload_n hx hb dX0_copyFrom_46 rfl (lv_at hl 1 rfl) ?_
        refine lv_aload_n hx hb dX0_copyFrom_47 rfl (lv_at hl 2 rfl) ?_
        refine pl_get (ci := 0) (v := .int x_9) (C := RX0) (T := TX0) (N := 8) hx hb hT iX0 hown hK hW hT_o.1 hS_o rfl 7 (by decide) w116 rfl dX0_copyFrom_48 ?_
        refine pl_put (ci := 0) (v := .int x_9) (ty := .int) (C := RX0) (T := TX0) (N := 8) (fs' := [.ref x_10, .ref x_11, .ref x_12, .ref x_13, .ref x_14, .ref x_15, .int (nI x_8), .int x_9]) hx hb hT iX0 tyX0 tyX0_ok nmX0 hown hK hW hT_b.1 hS_b rfl 7 (by decide) w116 rfl (by decide +kernel) rfl rfl (Nat.le_of_ble_eq_true rfl) rfl dX0_copyFrom_51 (fun H locs S_23 e1 hW => ?_)
        have hTy := hTy.u0 e1 hT_b ⟨x_10, x_11, x_12, x_13, x_14, x_15, x_8, x_9, rfl, hT_x_10, hT_x_11, hT_x_12, hT_x_13, hT_x_14, hT_x_15, (by omega)⟩
        have hS_o := un e1 hT_o hT_b (by decide) hS_o
        have hS_x_15 := un e1 hT_x_15 hT_b (by decide) hS_x_15
        have hFr := uf hFr e1 hT_b (by decide) (by decide)
        have hFl2 := uf hFl2 e1 hT_b (by decide) (by decide)
        have hS_b := us e1
        exact W.vret hx hb hr (fun t ht h9 => ⟨⟨S_23, rfl, ⟨hTy, hFr⟩, by rw [ht]; exact hW.1, va_K.moved h9.alike hK, hW.2.1⟩, hW.2.2.F ht⟩) hW.2.2.2.2 dX0_copyFrom_54
      · have c_7 : ¬ (x_8 ≤ i) := fun hh9 => c_7 ((nI_leI (a := x_8) (b := i) (by omega) (by omega)).mpr hh9)
        refine lv_aload_n hx hb dX0_copyFrom_10 rfl (lv_at hl 1 rfl) ?_
        refine lv_aload_n hx hb dX0_copyFrom_11 rfl (lv_at hl 2 rfl) ?_
        refine lv_iload_n hx hb dX0_copyFrom_12 rfl (lv_at hl 0 rfl) ?_
        refine lv_iload_n hx hb dX0_copyFrom_13 rfl (lv_at hl 0 rfl) ?_
        obtain ⟨x_24, x_25, x_26, x_27, x_28, x_29, x_30, x_31, hS_b, hT_x_24, hT_x_25, hT_x_26, hT_x_27, hT_x_28, hT_x_29, hb_x_30⟩ := hTy.k0 hT_b
        refine pl_callv (va_runV (As := [.ref o, .int (nI i), .int (nI i)]) (rest := []) ⟨hx, hb, hml, hown, hT⟩ (s_copyTrade0 l dC dI cy L kap pr S_1 H.size b o i i hTy hT_b hT_o (by omega) (by omega)) (cwV 3 hT (gV w627 w629 ws27 w5 w630) rfl rfl rfl (by decide +kernel) ⟨(Nat.le_of_ble_eq_true rfl), (Nat.le_of_ble_eq_true rfl)⟩) ⟨pcN.blind, pl_recv hK hW hT_b.1 hS_b rfl, pcN.pre hW.1 hK hW.2.1 hN (fun q h => absurd h List.not_mem_nil)⟩ rfl rfl hl.1 rfl (lv_room (Nat.le_of_ble_eq_true rfl)) dX0_copyFrom_14 ⟨(Nat.le_of_ble_eq_true rfl), (Nat.le_of_ble_eq_true rfl)⟩) hW hA0 hA (fun S_32 H locs hrel hW => ?_)
        obtain ⟨hTy, hF1⟩ := hrel
        have hFr := hFr.tr hF1 (by decide)
        have hFl2 := hFl2.tr hF1 (by decide)
        have hS_o := hF1.at hT_o (by decide) hS_o
        have hS_b := hF1.at hT_b (by decide) hS_b
        refine lv_iinc (v := nI (i + 1)) (lv' := [(2, .int (nI (i + 1))), (0, .ref b), (1, .ref o)]) hx hb dX0_copyFrom_17 hl (k := 0) rfl (nI_add (i) 1) (by decide) rfl (fun ls hl => ?_)
        refine lv_goto (tgt := 2) hx hb dX0_copyFrom_20 (by decide) ?_
        exact ih2 (i + 1) _ _ _ ls (by omega) (by omega) hTy hFr hFl2 hW (lv_sub hl [0, 1, 2] rfl)
  exact loop ((40 - 0) + 1) 0 _ _ _ ls (Nat.lt_succ_self _) (by omega) hTy hFr Fr.rf hW (lv_sub hl [0, 1, 2] rfl)
