set_option maxHeartbeats 4000000 in
set_option maxRecDepth 100000 in
theorem s_measure (l : Launch) (dC : Nat → ClassId) (dI : Nat → Nat → Nat) (cy : Nat → ClassId) (L : List Nat) (kap : Nat → Nat) (pr : Pr) (S : Nat → va_E) (sz : Nat) (g : Nat) (t : Nat) (hTy : Ty cy L kap pr S) (hT_g : TK L kap g 2) (hb_t : t < 256) : Met l yX2_measure (wT yX2_measure cX2_measure 5 none) ({ frames := 1, cells := 0, slots := 0, locals := 40 }) (pcN dC dI [.ref g, .int (nI t)] sz (va_pl L S) (cyT cy) NLs []) (va_Qv (fun S' => Ty cy L kap pr S' ∧ Fr kap [34, 39] S S') (fun S' t => pB dC dI (AL L sz) (va_pl L S') (cyT cy) t) (AL L sz)) 0 0 (AL L sz) := by
  refine Met.ofW (cc := cX2_measure) (maxL := 5) (ret := none) (by decide) rfl ?_
  intro p e s m args below meth c s₁ B hml hv
  obtain ⟨rfl, hsz, hP, hK, hD0, hN, -⟩ := hv
  have hx := B.exec
  have hb := B.bytes
  have hr := B.returns
  have hT : ∀ wd ∈ TB, wd.before [.ref g, .int (nI t)].toArray s = true := fun wd h => atoms_spec (ws := wT yX2_measure cX2_measure 5 none) B.pre wd (List.mem_cons_of_mem _ h)
  have hown : s.vm.findClass RX2 = some m.cls := findClass_of_methodNamed B.named
  have hlocks := B.notSynchronized
  subst hsz
  have hW : PW dC dI L (AL L s.heap.size) s.heap S s.heap [] := ⟨hP, pl_self hD0, va_S.rf⟩
  have hA0 : ∀ q, q ∈ L → AL L s.heap.size q := fun _ h => Or.inl h
  have hA : ∀ q, s.heap.size ≤ q → AL L s.heap.size q := fun _ h => Or.inr h
  have hFr : Fr kap [34, 39] S S := Fr.rf
  have hl := lv_entry ([.ref g, .int (nI t)]) (n := 5) (Nat.le_of_ble_eq_true rfl)
  rw [lg_entry_eq]
  generalize (lg_sl ([.ref g, .int (nI t)]) ++ List.replicate (5 - (lg_sl ([.ref g, .int (nI t)])).length) Slot.unset).toArray = ls at hl ⊢
  have hl : lv_has ls 5 [(0, .ref g), (1, .int (nI t))] := hl
  refine lv_iconst (v := 0) hx hb dX2_measure_0 (by decide) ?_
  refine lv_istore_n (lv' := [(2, .int 0), (0, .ref g), (1, .int (nI t))]) hx hb dX2_measure_1 rfl hl (by decide) rfl (fun ls hl => ?_)
  refine lv_iconst (v := 0) hx hb dX2_measure_2 (by decide) ?_
  refine lv_istore_n (lv' := [(3, .int 0), (2, .int 0), (0, .ref g), (1, .int (nI t))]) hx hb dX2_measure_3 rfl hl (by decide) rfl (fun ls hl => ?_)
  have loop : ∀ (fuel : Nat) (i : Nat) (fd : Int32) (SS : Nat → va_E) (H : Heap) (locs : List Loc) (ls : Array Slot), 9 - i < fuel → (i ≤ 8) → Ty cy L kap pr SS → Fr kap [34, 39] S SS → Fr kap [34] S SS → PW dC dI L (AL L s.heap.size) s.heap SS H locs → lv_has ls 5 [(3, .int (nI i)), (2, .int fd), (0, .ref g), (1, .int (nI t))] → W p l e (headSpec (wT yX2_measure cX2_measure 5 none) { frames := 1, cells := 0, slots := 0, locals := 40 }).room s m [.ref g, .int (nI t)].toArray below meth c H locs 0 0 (MQ below (va_Qv (fun S' => Ty cy L kap pr S' ∧ Fr kap [34, 39] S S') (fun S' t => pB dC dI (AL L s.heap.size) (va_pl L S') (cyT cy) t) (AL L s.heap.size)) [.ref g, .int (nI t)].toArray s 0 0 (AL L s.heap.size)) (F0 m 4 ls []) := by
    intro fuel
    induction fuel with
    | zero => intro i fd SS H locs ls h; exact absurd h (Nat.not_lt_zero _)
    | succ fu4 ih4 =>
      intro i fd S_1 H locs ls hm4 hb_i hTy hFr hFl4 hW hl
      refine lv_iload_n hx hb dX2_measure_4 rfl (lv_at hl 0 rfl) ?_
      refine lv_aload_n hx hb dX2_measure_5 rfl (lv_at hl 2 rfl) ?_
      obtain ⟨x_2, x_3, x_4, x_5, x_6, hS_g, hb_x_2, hT_x_4, hT_x_5, hT_x_6⟩ := hTy.k2 hT_g
      refine pl_get (ci := 2) (v := .int (nI x_2)) (C := RX2) (T := TX2) (N := 5) hx hb hT iX2 hown hK hW hT_g.1 hS_g rfl 0 (by decide) w313 rfl dX2_measure_6 ?_
      refine lv_icmp_ge (tgt := 65) hx hb dX2_measure_9 (by decide) (fun c_9 => ?_) (fun c_9 => ?_)
      · have c_9 : x_2 ≤ i := (nI_leI (a := x_2) (b := i) (by omega) (by omega)).mp c_9
        refine lv_aload_n hx hb dX2_measure_65 rfl (lv_at hl 2 rfl) ?_
        refine pl_get (ci := 2) (v := .ref x_6) (C := RX2) (T := TX2) (N := 5) hx hb hT iX2 hown hK hW hT_g.1 hS_g rfl 4 (by decide) w319 rfl dX2_measure_66 ?_
        refine lv_iload_n hx hb dX2_measure_69 rfl (lv_at hl 3 rfl) ?_
        refine lv_aload_n hx hb dX2_measure_70 rfl (lv_at hl 2 rfl) ?_
        refine pl_get (ci := 2) (v := .ref x_5) (C := RX2) (T := TX2) (N := 5) hx hb hT iX2 hown hK hW hT_g.1 hS_g rfl 3 (by decide) w318 rfl dX2_measure_71 ?_
        refine lv_iload_n hx hb dX2_measure_74 rfl (lv_at hl 3 rfl) ?_
        obtain ⟨f_7, hS_x_5⟩ := hTy.k34 hT_x_5
        refine pl_lald hx hb hK hW hT_x_5.1 hS_x_5 (vp_in_nI (n := t) (N := 256) (by omega) (by omega)) dX2_measure_75 ?_
        refine lv_topl (fun y_8 ey_8 => ?_)
        refine lv_lconst (v := 0) hx hb dX2_measure_76 (by decide) ?_
        refine W.lcmp hx hb dX2_measure_77 ?_
        refine lv_if_ne (tgt := 87) hx hb dX2_measure_78 (by decide) (fun c_78 => ?_) (fun c_78 => ?_)
        · refine lv_iload_n hx hb dX2_measure_87 rfl (lv_at hl 1 rfl) ?_
          obtain ⟨f_9, hS_x_6⟩ := hTy.k39 hT_x_6
          refine pl_iast hx hb hK hW hT_x_6.1 hS_x_6 (vp_in_nI (n := t) (N := 256) (by omega) (by omega)) dX2_measure_88 (fun H locs f_11 S_10 ef_f_11 e1 hW => ?_)
          have hTy := hTy.u39 e1 hT_x_6 ⟨f_11, rfl⟩
          have hS_g := un e1 hT_g hT_x_6 (by decide) hS_g
          have hS_x_5 := un e1 hT_x_5 hT_x_6 (by decide) hS_x_5
          have hFr := uf hFr e1 hT_x_6 (by decide) (by decide)
          have hS_x_6 := us e1
          exact W.vret hx hb hr (fun t ht h9 => ⟨⟨S_10, rfl, ⟨hTy, hFr⟩, by rw [ht]; exact hW.1, va_K.moved h9.alike hK, hW.2.1⟩, hW.2.2.F ht⟩) hW.2.2.2.2 dX2_measure_89
        · refine lv_iload_n hx hb dX2_measure_81 rfl (lv_at hl 1 rfl) ?_
          refine lv_iconst (v := 1) hx hb dX2_measure_82 (by decide) ?_
          refine lv_iadd hx hb dX2_measure_83 ?_
          refine lv_topi (fun z_12 ez_12 => ?_)
          refine lv_goto (tgt := 88) hx hb dX2_measure_84 (by decide) ?_
          obtain ⟨f_13, hS_x_6⟩ := hTy.k39 hT_x_6
          refine pl_iast hx hb hK hW hT_x_6.1 hS_x_6 (vp_in_nI (n := t) (N := 256) (by omega) (by omega)) dX2_measure_88 (fun H locs f_15 S_14 ef_f_15 e1 hW => ?_)
          have hTy := hTy.u39 e1 hT_x_6 ⟨f_15, rfl⟩
          have hS_g := un e1 hT_g hT_x_6 (by decide) hS_g
          have hS_x_5 := un e1 hT_x_5 hT_x_6 (by decide) hS_x_5
          have hFr := uf hFr e1 hT_x_6 (by decide) (by decide)
          have hS_x_6 := us e1
          exact W.vret hx hb hr (fun t ht h9 => ⟨⟨S_14, rfl, ⟨hTy, hFr⟩, by rw [ht]; exact hW.1, va_K.moved h9.alike hK, hW.2.1⟩, hW.2.2.F ht⟩) hW.2.2.2.2 dX2_measure_89
      · have c_9 : ¬ (x_2 ≤ i) := fun hh9 => c_9 ((nI_leI (a := x_2) (b := i) (by omega) (by omega)).mpr hh9)
        refine lv_iload_n hx hb dX2_measure_12 rfl (lv_at hl 3 rfl) ?_
        refine lv_iconst (v := 1) hx hb dX2_measure_13 (by decide) ?_
        refine lv_iload_n hx hb dX2_measure_14 rfl (lv_at hl 0 rfl) ?_
        refine lv_ishl hx hb dX2_measure_15 ?_
        refine lv_topi (fun z_16 ez_16 => ?_)
        refine lv_iconst (v := (-1)) hx hb dX2_measure_16 (by decide) ?_
        refine lv_ixor hx hb dX2_measure_17 ?_
        refine lv_topi (fun z_17 ez_17 => ?_)
        refine lv_iand hx hb dX2_measure_18 ?_
        refine lv_topi (fun z_18 ez_18 => ?_)
        obtain ⟨k_19, hb_k_19, hq_k_19⟩ := andN (t := t) (by omega) z_17
        obtain rfl : z_18 = nI k_19 := ez_18.trans hq_k_19
        refine lv_istore (lv' := [(4, .int (nI k_19)), (3, .int (nI i)), (2, .int fd), (0, .ref g), (1, .int (nI t))]) hx hb dX2_measure_19 hl (by decide) rfl (fun ls hl => ?_)
        refine lv_iload hx hb dX2_measure_21 (lv_at hl 0 rfl) ?_
        refine lv_iload_n hx hb dX2_measure_23 rfl (lv_at hl 4 rfl) ?_
        refine lv_icmp_eq (tgt := 59) hx hb dX2_measure_24 (by decide) (fun c_24 => ?_) (fun c_24 => ?_)
        · have c_24 : k_19 = t := (nI_eq (a := k_19) (b := t) (by omega) (by omega)).mp c_24
          refine lv_iinc (v := nI (i + 1)) (lv' := [(3, .int (nI (i + 1))), (4, .int (nI k_19)), (2, .int fd), (0, .ref g), (1, .int (nI t))]) hx hb dX2_measure_59 hl (k := 1) rfl (nI_add (i) 1) (by decide) rfl (fun ls hl => ?_)
          refine lv_goto (tgt := 4) hx hb dX2_measure_62 (by decide) ?_
          exact ih4 (i + 1) fd _ _ _ ls (by omega) (by omega) hTy hFr hFl4 hW (lv_sub hl [0, 2, 3, 4] rfl)
        · have c_24 : ¬ (k_19 = t) := fun hh9 => c_24 ((nI_eq (a := k_19) (b := t) (by omega) (by omega)).mpr hh9)
          refine lv_iload_n hx hb dX2_measure_27 rfl (lv_at hl 2 rfl) ?_
          refine lv_aload_n hx hb dX2_measure_28 rfl (lv_at hl 3 rfl) ?_
          refine pl_get (ci := 2) (v := .ref x_6) (C := RX2) (T := TX2) (N := 5) hx hb hT iX2 hown hK hW hT_g.1 hS_g rfl 4 (by decide) w319 rfl dX2_measure_29 ?_
          refine lv_iload hx hb dX2_measure_32 (lv_at hl 0 rfl) ?_
          obtain ⟨f_20, hS_x_6⟩ := hTy.k39 hT_x_6
          refine pl_iald hx hb hK hW hT_x_6.1 hS_x_6 (vp_in_nI (n := k_19) (N := 256) (by omega) (by omega)) dX2_measure_34 ?_
          refine lv_topi (fun y_21 ey_21 => ?_)
          refine va_mmax hx hb (hml.trans hl.1.symm) hown (hT _ w1035) (hT _ w953) (hT _ w15) (hT _ w954) (Nat.le_of_ble_eq_true rfl) (Nat.le_of_ble_eq_true rfl) (Nat.le_of_ble_eq_true rfl) (Nat.le_of_ble_eq_true rfl) dX2_measure_35 ?_
          refine lv_topi (fun z_22 ez_22 => ?_)
          refine lv_istore_n (lv' := [(2, .int z_22), (4, .int (nI k_19)), (3, .int (nI i)), (0, .ref g), (1, .int (nI t))]) hx hb dX2_measure_38 rfl hl (by decide) rfl (fun ls hl => ?_)
          refine lv_aload_n hx hb dX2_measure_39 rfl (lv_at hl 3 rfl) ?_
          refine pl_get (ci := 2) (v := .ref x_5) (C := RX2) (T := TX2) (N := 5) hx hb hT iX2 hown hK hW hT_g.1 hS_g rfl 3 (by decide) w318 rfl dX2_measure_40 ?_
          refine lv_iload_n hx hb dX2_measure_43 rfl (lv_at hl 4 rfl) ?_
          refine lv_aload_n hx hb dX2_measure_44 rfl (lv_at hl 3 rfl) ?_
          refine pl_get (ci := 2) (v := .ref x_5) (C := RX2) (T := TX2) (N := 5) hx hb hT iX2 hown hK hW hT_g.1 hS_g rfl 3 (by decide) w318 rfl dX2_measure_45 ?_
          refine lv_iload hx hb dX2_measure_48 (lv_at hl 1 rfl) ?_
          obtain ⟨f_23, hS_x_5⟩ := hTy.k34 hT_x_5
          refine pl_lald hx hb hK hW hT_x_5.1 hS_x_5 (vp_in_nI (n := k_19) (N := 256) (by omega) (by omega)) dX2_measure_50 ?_
          refine lv_topl (fun y_24 ey_24 => ?_)
          refine lv_aload_n hx hb dX2_measure_51 rfl (lv_at hl 3 rfl) ?_
          refine pl_get (ci := 2) (v := .ref x_4) (C := RX2) (T := TX2) (N := 5) hx hb hT iX2 hown hK hW hT_g.1 hS_g rfl 2 (by decide) w317 rfl dX2_measure_52 ?_
          refine lv_iload_n hx hb dX2_measure_55 rfl (lv_at hl 2 rfl) ?_
          obtain ⟨f_25, hS_x_4⟩ := hTy.k33 hT_x_4
          refine pl_lald hx hb hK hW hT_x_4.1 hS_x_4 (vp_in_nI (n := i) (N := 8) (by omega) (by omega)) dX2_measure_56 ?_
          refine lv_topl (fun y_26 ey_26 => ?_)
          refine lv_ladd hx hb dX2_measure_57 ?_
          refine lv_topl (fun z_27 ez_27 => ?_)
          refine pl_last hx hb hK hW hT_x_5.1 hS_x_5 (vp_in_nI (n := t) (N := 256) (by omega) (by omega)) dX2_measure_58 (fun H locs f_29 S_28 ef_f_29 e1 hW => ?_)
          have hTy := hTy.u34 e1 hT_x_5 ⟨f_29, rfl⟩
          have hS_g := un e1 hT_g hT_x_5 (by decide) hS_g
          have hS_x_6 := un e1 hT_x_6 hT_x_5 (by decide) hS_x_6
          have hS_x_4 := un e1 hT_x_4 hT_x_5 (by decide) hS_x_4
          have hFr := uf hFr e1 hT_x_5 (by decide) (by decide)
          have hFl4 := uf hFl4 e1 hT_x_5 (by decide) (by decide)
          have hS_x_5 := us e1
          refine lv_iinc (v := nI (i + 1)) (lv' := [(3, .int (nI (i + 1))), (2, .int z_22), (4, .int (nI k_19)), (0, .ref g), (1, .int (nI t))]) hx hb dX2_measure_59 hl (k := 2) rfl (nI_add (i) 1) (by decide) rfl (fun ls hl => ?_)
          refine lv_goto (tgt := 4) hx hb dX2_measure_62 (by decide) ?_
          exact ih4 (i + 1) z_22 _ _ _ ls (by omega) (by omega) hTy hFr hFl4 hW (lv_sub hl [0, 1, 3, 4] rfl)
  exact loop ((9 - 0) + 1) 0 0 _ _ _ ls (Nat.lt_succ_self _) (by omega) hTy hFr Fr.rf hW (lv_sub hl [0, 1, 2, 3] rfl)

set_option maxHeartbeats 4000000 in
set_option maxRecDepth 100000 in
theorem s_gfind (l : Launch) (dC : Nat → ClassId) (dI : Nat → Nat → Nat) (cy : Nat → ClassId) (L : List Nat) (kap : Nat → Nat) (pr : Pr) (S : Nat → va_E) (sz : Nat) (g : Nat) (w : Nat) (hTy : Ty cy L kap pr S) (hT_g : TK L kap g 2) (hT_w : TK L kap w 1) : Met l yX2_find (wT yX2_find cX2_find 5 none) ({ frames := 4, cells := 0, slots := 0, locals := 87 }) (pcN dC dI [.ref g, .ref w] sz (va_pl L S) (cyT cy) NLs []) (va_Qv (fun S' => Ty cy L kap pr S' ∧ Fr kap [2, 33, 34, 39] S S') (fun S' t => pB dC dI (AL L sz) (va_pl L S') (cyT cy) t) (AL L sz)) 0 0 (AL L sz) := by
  refine Met.ofW (cc := cX2_find) (maxL := 5) (ret := none) (by decide) rfl ?_
  intro p e s m args below meth c s₁ B hml hv
  obtain ⟨rfl, hsz, hP, hK, hD0, hN, -⟩ := hv
  have hx := B.exec
  have hb := B.bytes
  have hr := B.returns
  have hT : ∀ wd ∈ TB, wd.before [.ref g, .ref w].toArray s = true := fun wd h => atoms_spec (ws := wT yX2_find cX2_find 5 none) B.pre wd (List.mem_cons_of_mem _ h)
  have hown : s.vm.findClass RX2 = some m.cls := findClass_of_methodNamed B.named
  have hlocks := B.notSynchronized
  subst hsz
  have hW : PW dC dI L (AL L s.heap.size) s.heap S s.heap [] := ⟨hP, pl_self hD0, va_S.rf⟩
  have hA0 : ∀ q, q ∈ L → AL L s.heap.size q := fun _ h => Or.inl h
  have hA : ∀ q, s.heap.size ≤ q → AL L s.heap.size q := fun _ h => Or.inr h
  have hFr : Fr kap [2, 33, 34, 39] S S := Fr.rf
  have hl := lv_entry ([.ref g, .ref w]) (n := 5) (Nat.le_of_ble_eq_true rfl)
  rw [lg_entry_eq]
  generalize (lg_sl ([.ref g, .ref w]) ++ List.replicate (5 - (lg_sl ([.ref g, .ref w])).length) Slot.unset).toArray = ls at hl ⊢
  have hl : lv_has ls 5 [(0, .ref g), (1, .ref w)] := hl
  refine lv_aload_n hx hb dX2_find_0 rfl (lv_at hl 0 rfl) ?_
  refine lv_iconst (v := 0) hx hb dX2_find_1 (by decide) ?_
  obtain ⟨x_1, x_2, x_3, x_4, x_5, hS_g, hb_x_1, hT_x_3, hT_x_4, hT_x_5⟩ := hTy.k2 hT_g
  refine pl_put (ci := 2) (v := .int 0) (ty := .int) (C := RX2) (T := TX2) (N := 5) (fs' := [.int 0, .int x_2, .ref x_3, .ref x_4, .ref x_5]) hx hb hT iX2 tyX2 tyX2_ok nmX2 hown hK hW hT_g.1 hS_g rfl 0 (by decide) w313 rfl (by decide +kernel) rfl rfl (Nat.le_of_ble_eq_true rfl) rfl dX2_find_2 (fun H locs S_6 e1 hW => ?_)
  have hTy := hTy.u2 e1 hT_g ⟨0, x_2, x_3, x_4, x_5, rfl, (by omega), hT_x_3, hT_x_4, hT_x_5⟩
  have hFr := uf hFr e1 hT_g (by decide) (by decide)
  have hS_g := us e1
  refine lv_iconst (v := 0) hx hb dX2_find_5 (by decide) ?_
  refine lv_istore_n (lv' := [(2, .int 0), (0, .ref g), (1, .ref w)]) hx hb dX2_find_6 rfl hl (by decide) rfl (fun ls hl => ?_)
  have loop : ∀ (fuel : Nat) (i : Nat) (n : Nat) (SS : Nat → va_E) (H : Heap) (locs : List Loc) (ls : Array Slot), 9 - i < fuel → (i ≤ 8) → (∃ (x1 : Int32) (x2 x3 x4 : Nat), SS g = .inr (2, [.int (nI n), .int x1, .ref x2, .ref x3, .ref x4])) → (n ≤ i) → Ty cy L kap pr SS → Fr kap [2, 33, 34, 39] S SS → Fr kap [2, 33] S_6 SS → PW dC dI L (AL L s.heap.size) s.heap SS H locs → lv_has ls 5 [(2, .int (nI i)), (0, .ref g), (1, .ref w)] → W p l e (headSpec (wT yX2_find cX2_find 5 none) { frames := 4, cells := 0, slots := 0, locals := 87 }).room s m [.ref g, .ref w].toArray below meth c H locs 0 0 (MQ below (va_Qv (fun S' => Ty cy L kap pr S' ∧ Fr kap [2, 33, 34, 39] S S') (fun S' t => pB dC dI (AL L s.heap.size) (va_pl L S') (cyT cy) t) (AL L s.heap.size)) [.ref g, .ref w].toArray s 0 0 (AL L s.heap.size)) (F0 m 7 ls []) := by
    intro fuel
    induction fuel with
    | zero => intro i n SS H locs ls h; exact absurd h (Nat.not_lt_zero _)
    | succ fu7 ih7 =>
      intro i n S_7 H locs ls hm7 hb_i hz hni hTy hFr hFl7 hW hl
      obtain ⟨x_8, x_9, x_10, x_11, x_12, hS_g, hb_x_8, hT_x_10, hT_x_11, hT_x_12⟩ := hTy.k2 hT_g
      obtain ⟨z1, z2, z3, z4, hzz⟩ := hz
      have ez := gfix (by omega) (by omega) hS_g hzz
      rw [ez] at hS_g
      refine lv_iload_n hx hb dX2_find_7 rfl (lv_at hl 0 rfl) ?_
      refine lv_aload_n hx hb dX2_find_8 rfl (lv_at hl 2 rfl) ?_
      obtain ⟨x_13, x_14, hS_w, hT_x_13, hb_x_14⟩ := hTy.k1 hT_w
      refine pl_get (ci := 1) (v := .int (nI x_14)) (C := RX1) (T := TX1) (N := 2) hx hb hT iX1 hown hK hW hT_w.1 hS_w rfl 1 (by decide) w202 rfl dX2_find_9 ?_
      refine lv_icmp_ge (tgt := 53) hx hb dX2_find_12 (by decide) (fun c_12 => ?_) (fun c_12 => ?_)
      · have c_12 : x_14 ≤ i := (nI_leI (a := x_14) (b := i) (by omega) (by omega)).mp c_12
        refine lv_aload_n hx hb dX2_find_53 rfl (lv_at hl 1 rfl) ?_
        refine pl_get (ci := 2) (v := .ref x_11) (C := RX2) (T := TX2) (N := 5) hx hb hT iX2 hown hK hW hT_g.1 hS_g rfl 3 (by decide) w318 rfl dX2_find_54 ?_
        refine lv_iconst (v := 0) hx hb dX2_find_57 (by decide) ?_
        refine lv_lconst (v := 0) hx hb dX2_find_58 (by decide) ?_
        obtain ⟨f_15, hS_x_11⟩ := hTy.k34 hT_x_11
        refine pl_last hx hb hK hW hT_x_11.1 hS_x_11 (vp_in_nI (n := 0) (N := 256) (by omega) (by omega)) dX2_find_59 (fun H locs f_17 S_16 ef_f_17 e1 hW => ?_)
        have hTy := hTy.u34 e1 hT_x_11 ⟨f_17, rfl⟩
        have hS_g := un e1 hT_g hT_x_11 (by decide) hS_g
        have hS_w := un e1 hT_w hT_x_11 (by decide) hS_w
        have hFr := uf hFr e1 hT_x_11 (by decide) (by decide)
        have hS_x_11 := us e1
        refine lv_aload_n hx hb dX2_find_60 rfl (lv_at hl 1 rfl) ?_
        refine pl_get (ci := 2) (v := .ref x_12) (C := RX2) (T := TX2) (N := 5) hx hb hT iX2 hown hK hW hT_g.1 hS_g rfl 4 (by decide) w319 rfl dX2_find_61 ?_
        refine lv_iconst (v := 0) hx hb dX2_find_64 (by decide) ?_
        refine lv_iconst (v := 0) hx hb dX2_find_65 (by decide) ?_
        obtain ⟨f_18, hS_x_12⟩ := hTy.k39 hT_x_12
        refine pl_iast hx hb hK hW hT_x_12.1 hS_x_12 (vp_in_nI (n := 0) (N := 256) (by omega) (by omega)) dX2_find_66 (fun H locs f_20 S_19 ef_f_20 e1 hW => ?_)
        have hTy := hTy.u39 e1 hT_x_12 ⟨f_20, rfl⟩
        have hS_g := un e1 hT_g hT_x_12 (by decide) hS_g
        have hS_w := un e1 hT_w hT_x_12 (by decide) hS_w
        have hS_x_11 := un e1 hT_x_11 hT_x_12 (by decide) hS_x_11
        have hFr := uf hFr e1 hT_x_12 (by decide) (by decide)
        have hS_x_12 := us e1
        refine lv_iconst (v := 1) hx hb dX2_find_67 (by decide) ?_
        refine lv_istore_n (lv' := [(2, .int 1), (0, .ref g), (1, .ref w)]) hx hb dX2_find_68 rfl hl (by decide) rfl (fun ls hl => ?_)
        have loop : ∀ (fuel : Nat) (s9 : Nat) (SS : Nat → va_E) (H : Heap) (locs : List Loc) (ls : Array Slot), 257 - s9 < fuel → (s9 ≤ 256) → Ty cy L kap pr SS → Fr kap [2, 33, 34, 39] S SS → Fr kap [2, 33, 34, 39] S_19 SS → PW dC dI L (AL L s.heap.size) s.heap SS H locs → lv_has ls 5 [(2, .int (nI s9)), (0, .ref g), (1, .ref w)] → W p l e (headSpec (wT yX2_find cX2_find 5 none) { frames := 4, cells := 0, slots := 0, locals := 87 }).room s m [.ref g, .ref w].toArray below meth c H locs 0 0 (MQ below (va_Qv (fun S' => Ty cy L kap pr S' ∧ Fr kap [2, 33, 34, 39] S S') (fun S' t => pB dC dI (AL L s.heap.size) (va_pl L S') (cyT cy) t) (AL L s.heap.size)) [.ref g, .ref w].toArray s 0 0 (AL L s.heap.size)) (F0 m 69 ls []) := by
          intro fuel
          induction fuel with
          | zero => intro s9 SS H locs ls h; exact absurd h (Nat.not_lt_zero _)
          | succ fu69 ih69 =>
            intro s9 S_21 H locs ls hm69 hb_s9 hTy hFr hFl69 hW hl
            have hS_w := hFl69.at hT_w (by decide) hS_w
            refine lv_iload_n hx hb dX2_find_69 rfl (lv_at hl 0 rfl) ?_
            refine lv_iconst (v := 1) hx hb dX2_find_70 (by decide) ?_
            refine lv_aload_n hx hb dX2_find_71 rfl (lv_at hl 1 rfl) ?_
            obtain ⟨x_22, x_23, x_24, x_25, x_26, hS_g, hb_x_22, hT_x_24, hT_x_25, hT_x_26⟩ := hTy.k2 hT_g
            refine pl_get (ci := 2) (v := .int (nI x_22)) (C := RX2) (T := TX2) (N := 5) hx hb hT iX2 hown hK hW hT_g.1 hS_g rfl 0 (by decide) w313 rfl dX2_find_72 ?_
            refine lv_ishl hx hb dX2_find_75 ?_
            refine lv_topi (fun z_27 ez_27 => ?_)
            obtain ⟨P_28, ha_P_28, hb_P_28, hq_P_28⟩ := sh1 (n := x_22) (by omega)
            obtain rfl : z_27 = nI P_28 := ez_27.trans hq_P_28
            refine lv_icmp_ge (tgt := 90) hx hb dX2_find_76 (by decide) (fun c_76 => ?_) (fun c_76 => ?_)
            · have c_76 : P_28 ≤ s9 := (nI_leI (a := P_28) (b := s9) (by omega) (by omega)).mp c_76
              refine lv_aload_n hx hb dX2_find_90 rfl (lv_at hl 1 rfl) ?_
              refine lv_aload_n hx hb dX2_find_91 rfl (lv_at hl 1 rfl) ?_
              refine pl_get (ci := 2) (v := .ref x_26) (C := RX2) (T := TX2) (N := 5) hx hb hT iX2 hown hK hW hT_g.1 hS_g rfl 4 (by decide) w319 rfl dX2_find_92 ?_
              refine lv_iconst (v := 1) hx hb dX2_find_95 (by decide) ?_
              refine lv_aload_n hx hb dX2_find_96 rfl (lv_at hl 1 rfl) ?_
              refine pl_get (ci := 2) (v := .int (nI x_22)) (C := RX2) (T := TX2) (N := 5) hx hb hT iX2 hown hK hW hT_g.1 hS_g rfl 0 (by decide) w313 rfl dX2_find_97 ?_
              refine lv_ishl hx hb dX2_find_100 ?_
              refine lv_topi (fun z_29 ez_29 => ?_)
              obtain ⟨P_30, ha_P_30, hb_P_30, hq_P_30⟩ := sh1 (n := x_22) (by omega)
              obtain rfl : z_29 = nI P_30 := ez_29.trans hq_P_30
              refine lv_iconst (v := 1) hx hb dX2_find_101 (by decide) ?_
              refine lv_isub hx hb dX2_find_102 ?_
              refine lv_topi (fun z_31 ez_31 => ?_)
              obtain rfl : z_31 = nI (P_30 - 1) := ez_31.trans (pk_sub (a := P_30) (b := 1) (by omega))
              obtain ⟨f_32, hS_x_26⟩ := hTy.k39 hT_x_26
              refine pl_iald hx hb hK hW hT_x_26.1 hS_x_26 (vp_in_nI (n := P_30 - 1) (N := 256) (by omega) (by omega)) dX2_find_103 ?_
              refine lv_topi (fun y_33 ey_33 => ?_)
              refine pl_put (ci := 2) (v := .int y_33) (ty := .int) (C := RX2) (T := TX2) (N := 5) (fs' := [.int (nI x_22), .int y_33, .ref x_24, .ref x_25, .ref x_26]) hx hb hT iX2 tyX2 tyX2_ok nmX2 hown hK hW hT_g.1 hS_g rfl 1 (by decide) w315 rfl (by decide +kernel) rfl rfl (Nat.le_of_ble_eq_true rfl) rfl dX2_find_104 (fun H locs S_34 e1 hW => ?_)
              have hTy := hTy.u2 e1 hT_g ⟨x_22, y_33, x_24, x_25, x_26, rfl, (by omega), hT_x_24, hT_x_25, hT_x_26⟩
              have hS_w := un e1 hT_w hT_g (by decide) hS_w
              have hS_x_26 := un e1 hT_x_26 hT_g (by decide) hS_x_26
              have hFr := uf hFr e1 hT_g (by decide) (by decide)
              have hFl69 := uf hFl69 e1 hT_g (by decide) (by decide)
              have hS_g := us e1
              exact W.vret hx hb hr (fun t ht h9 => ⟨⟨S_34, rfl, ⟨hTy, hFr⟩, by rw [ht]; exact hW.1, va_K.moved h9.alike hK, hW.2.1⟩, hW.2.2.F ht⟩) hW.2.2.2.2 dX2_find_107
            · have c_76 : ¬ (P_28 ≤ s9) := fun hh9 => c_76 ((nI_leI (a := P_28) (b := s9) (by omega) (by omega)).mpr hh9)
              refine lv_aload_n hx hb dX2_find_79 rfl (lv_at hl 1 rfl) ?_
              refine lv_iload_n hx hb dX2_find_80 rfl (lv_at hl 0 rfl) ?_
              refine pl_callv (va_runV (As := [.int (nI s9)]) (rest := []) ⟨hx, hb, hml, hown, hT⟩ (s_measure l dC dI cy L kap pr S_21 H.size g s9 hTy hT_g (by omega)) (cwV 1 hT (gV w1031 w1033 ws50 w12 w1034) rfl rfl rfl (by decide +kernel) ⟨(Nat.le_of_ble_eq_true rfl), (Nat.le_of_ble_eq_true rfl)⟩) ⟨pcN.blind, pl_recv hK hW hT_g.1 hS_g rfl, pcN.pre hW.1 hK hW.2.1 hN (fun q h => absurd h List.not_mem_nil)⟩ rfl rfl hl.1 rfl (lv_room (Nat.le_of_ble_eq_true rfl)) dX2_find_81 ⟨(Nat.le_of_ble_eq_true rfl), (Nat.le_of_ble_eq_true rfl)⟩) hW hA0 hA (fun S_35 H locs hrel hW => ?_)
              obtain ⟨hTy, hF1⟩ := hrel
              have hFr := hFr.tr hF1 (by decide)
              have hFl69 := hFl69.tr hF1 (by decide)
              have hS_w := hF1.at hT_w (by decide) hS_w
              have hS_g := hF1.at hT_g (by decide) hS_g
              refine lv_iinc (v := nI (s9 + 1)) (lv' := [(2, .int (nI (s9 + 1))), (0, .ref g), (1, .ref w)]) hx hb dX2_find_84 hl (k := 0) rfl (nI_add (s9) 1) (by decide) rfl (fun ls hl => ?_)
              refine lv_goto (tgt := 69) hx hb dX2_find_87 (by decide) ?_
              exact ih69 (s9 + 1) _ _ _ ls (by omega) (by omega) hTy hFr hFl69 hW (lv_sub hl [0, 1, 2] rfl)
        exact loop ((257 - 1) + 1) 1 _ _ _ ls (Nat.lt_succ_self _) (by omega) hTy hFr Fr.rf hW (lv_sub hl [0, 1, 2] rfl)
      · have c_12 : ¬ (x_14 ≤ i) := fun hh9 => c_12 ((nI_leI (a := x_14) (b := i) (by omega) (by omega)).mpr hh9)
        refine lv_aload_n hx hb dX2_find_15 rfl (lv_at hl 2 rfl) ?_
        refine lv_iload_n hx hb dX2_find_16 rfl (lv_at hl 0 rfl) ?_
        refine vp_callSl (va_Run.run (va_runV (As := [.int (nI i)]) (rest := []) ⟨hx, hb, hml, hown, hT⟩ (s_netOf l dC dI cy L kap pr S_7 H.size w i hTy hT_w (by omega)) (cwV 1 hT (gV w1030 w739 w740 w8 w741) rfl rfl rfl (by decide +kernel) ⟨(Nat.le_of_ble_eq_true rfl), (Nat.le_of_ble_eq_true rfl)⟩) ⟨pcN.blind, pl_recv hK hW hT_w.1 hS_w rfl, pcN.pre hW.1 hK hW.2.1 hN (fun q h => absurd h List.not_mem_nil)⟩ rfl rfl hl.1 rfl (lv_room (Nat.le_of_ble_eq_true rfl)) dX2_find_17 ⟨(Nat.le_of_ble_eq_true rfl), (Nat.le_of_ble_eq_true rfl)⟩)) (fun r_36 hr_36 => ?_)
        refine lv_lstore_n (lv' := [(3, .long r_36), (2, .int (nI i)), (0, .ref g), (1, .ref w)]) hx hb dX2_find_20 rfl hl (by decide) rfl (fun ls hl => ?_)
        refine lv_lload_n hx hb dX2_find_21 rfl (lv_at hl 0 rfl) ?_
        refine lv_lconst (v := 0) hx hb dX2_find_22 (by decide) ?_
        refine W.lcmp hx hb dX2_find_23 ?_
        refine lv_if_eq (tgt := 47) hx hb dX2_find_24 (by decide) (fun c_24 => ?_) (fun c_24 => ?_)
        · refine lv_iinc (v := nI (i + 1)) (lv' := [(2, .int (nI (i + 1))), (3, .long r_36), (0, .ref g), (1, .ref w)]) hx hb dX2_find_47 hl (k := 1) rfl (nI_add (i) 1) (by decide) rfl (fun ls hl => ?_)
          refine lv_goto (tgt := 7) hx hb dX2_find_50 (by decide) ?_
          exact ih7 (i + 1) n _ _ _ ls (by omega) (by omega) ⟨_, _, _, _, hS_g⟩ (by omega) hTy hFr hFl7 hW (lv_sub hl [0, 2, 3] rfl)
        · refine lv_aload_n hx hb dX2_find_27 rfl (lv_at hl 2 rfl) ?_
          refine pl_get (ci := 2) (v := .ref x_10) (C := RX2) (T := TX2) (N := 5) hx hb hT iX2 hown hK hW hT_g.1 hS_g rfl 2 (by decide) w317 rfl dX2_find_28 ?_
          refine lv_aload_n hx hb dX2_find_31 rfl (lv_at hl 2 rfl) ?_
          refine pl_get (ci := 2) (v := .int (nI n)) (C := RX2) (T := TX2) (N := 5) hx hb hT iX2 hown hK hW hT_g.1 hS_g rfl 0 (by decide) w313 rfl dX2_find_32 ?_
          refine lv_lload_n hx hb dX2_find_35 rfl (lv_at hl 0 rfl) ?_
          obtain ⟨f_37, hS_x_10⟩ := hTy.k33 hT_x_10
          refine pl_last hx hb hK hW hT_x_10.1 hS_x_10 (vp_in_nI (n := n) (N := 8) (by omega) (by omega)) dX2_find_36 (fun H locs f_39 S_38 ef_f_39 e1 hW => ?_)
          have hTy := hTy.u33 e1 hT_x_10 ⟨f_39, rfl⟩
          have hS_g := un e1 hT_g hT_x_10 (by decide) hS_g
          have hS_w := un e1 hT_w hT_x_10 (by decide) hS_w
          have hFr := uf hFr e1 hT_x_10 (by decide) (by decide)
          have hFl7 := uf hFl7 e1 hT_x_10 (by decide) (by decide)
          have hS_x_10 := us e1
          refine lv_aload_n hx hb dX2_find_37 rfl (lv_at hl 2 rfl) ?_
          refine lv_dup hx hb dX2_find_38 rfl ?_
          refine pl_get (ci := 2) (v := .int (nI n)) (C := RX2) (T := TX2) (N := 5) hx hb hT iX2 hown hK hW hT_g.1 hS_g rfl 0 (by decide) w313 rfl dX2_find_39 ?_
          refine lv_iconst (v := 1) hx hb dX2_find_42 (by decide) ?_
          refine lv_iadd hx hb dX2_find_43 ?_
          refine lv_topi (fun z_40 ez_40 => ?_)
          obtain rfl : z_40 = nI (n + 1) := ez_40.trans (nI_add (n) (1))
          refine pl_put (ci := 2) (v := .int (nI (n + 1))) (ty := .int) (C := RX2) (T := TX2) (N := 5) (fs' := [.int (nI (n + 1)), .int x_9, .ref x_10, .ref x_11, .ref x_12]) hx hb hT iX2 tyX2 tyX2_ok nmX2 hown hK hW hT_g.1 hS_g rfl 0 (by decide) w313 rfl (by decide +kernel) rfl rfl (Nat.le_of_ble_eq_true rfl) rfl dX2_find_44 (fun H locs S_41 e1 hW => ?_)
          have hTy := hTy.u2 e1 hT_g ⟨n + 1, x_9, x_10, x_11, x_12, rfl, (by omega), hT_x_10, hT_x_11, hT_x_12⟩
          have hS_w := un e1 hT_w hT_g (by decide) hS_w
          have hS_x_10 := un e1 hT_x_10 hT_g (by decide) hS_x_10
          have hFr := uf hFr e1 hT_g (by decide) (by decide)
          have hFl7 := uf hFl7 e1 hT_g (by decide) (by decide)
          have hS_g := us e1
          refine lv_iinc (v := nI (i + 1)) (lv' := [(2, .int (nI (i + 1))), (3, .long r_36), (0, .ref g), (1, .ref w)]) hx hb dX2_find_47 hl (k := 1) rfl (nI_add (i) 1) (by decide) rfl (fun ls hl => ?_)
          refine lv_goto (tgt := 7) hx hb dX2_find_50 (by decide) ?_
          exact ih7 (i + 1) (n + 1) _ _ _ ls (by omega) (by omega) ⟨_, _, _, _, hS_g⟩ (by omega) hTy hFr hFl7 hW (lv_sub hl [0, 2, 3] rfl)
  exact loop ((9 - 0) + 1) 0 0 _ _ _ ls (Nat.lt_succ_self _) (by omega) ⟨_, _, _, _, hS_g⟩ (by omega) hTy hFr Fr.rf hW (lv_sub hl [0, 1, 2] rfl)

set_option maxHeartbeats 4000000 in
set_option maxRecDepth 100000 in
theorem s_rnext (l : Launch) (dC : Nat → ClassId) (dI : Nat → Nat → Nat) (cy : Nat → ClassId) (L : List Nat) (kap : Nat → Nat) (pr : Pr) (S : Nat → va_E) (sz : Nat) (o : Nat) (w : Nat) (k : Int32) (hTy : Ty cy L kap pr S) (hT_o : TK L kap o 8) (hT_w : TK L kap w 1) : Met l yX8_nextOf (wT yX8_nextOf cX8_nextOf 4 (some .int)) ({ frames := 2, cells := 0, slots := 0, locals := 43 }) (pcN dC dI [.ref o, .ref w, .int k] sz (va_pl L S) (cyT cy) NLs []) (vp_Si (fun r => r = -1 ∨ ∃ k, k < 8 ∧ r = nI k)) 0 0 (fun _ => False) := by
  refine Met.ofW (cc := cX8_nextOf) (maxL := 4) (ret := (some .int)) (by decide) rfl ?_
  intro p e s m args below meth c s₁ B hml hv
  obtain ⟨rfl, hsz, hP, hK, hD0, hN, -⟩ := hv
  have hx := B.exec
  have hb := B.bytes
  have hr := B.returns
  have hT : ∀ wd ∈ TB, wd.before [.ref o, .ref w, .int k].toArray s = true := fun wd h => atoms_spec (ws := wT yX8_nextOf cX8_nextOf 4 (some .int)) B.pre wd (List.mem_cons_of_mem _ h)
  have hown : s.vm.findClass RX8 = some m.cls := findClass_of_methodNamed B.named
  have hlocks := B.notSynchronized
  subst hsz
  have hW : PW dC dI L (AL L s.heap.size) s.heap S s.heap [] := ⟨hP, pl_self hD0, va_S.rf⟩
  have hFr : Fr kap [] S S := Fr.rf
  have hl := lv_entry ([.ref o, .ref w, .int k]) (n := 4) (Nat.le_of_ble_eq_true rfl)
  rw [lg_entry_eq]
  generalize (lg_sl ([.ref o, .ref w, .int k]) ++ List.replicate (4 - (lg_sl ([.ref o, .ref w, .int k])).length) Slot.unset).toArray = ls at hl ⊢
  have hl : lv_has ls 4 [(0, .ref o), (1, .ref w), (2, .int k)] := hl
  refine lv_iconst (v := 0) hx hb dX8_nextOf_0 (by decide) ?_
  refine lv_istore_n (lv' := [(3, .int 0), (0, .ref o), (1, .ref w), (2, .int k)]) hx hb dX8_nextOf_1 rfl hl (by decide) rfl (fun ls hl => ?_)
  have loop : ∀ (fuel : Nat) (i : Nat) (ls : Array Slot), 9 - i < fuel → (i ≤ 8) → lv_has ls 4 [(3, .int (nI i)), (0, .ref o), (1, .ref w), (2, .int k)] → W p l e (headSpec (wT yX8_nextOf cX8_nextOf 4 (some .int)) { frames := 2, cells := 0, slots := 0, locals := 43 }).room s m [.ref o, .ref w, .int k].toArray below meth c s.heap [] 0 0 (MQ below (vp_Si (fun r => r = -1 ∨ ∃ k, k < 8 ∧ r = nI k)) [.ref o, .ref w, .int k].toArray s 0 0 (fun _ => False)) (F0 m 2 ls []) := by
    intro fuel
    induction fuel with
    | zero => intro i ls h; exact absurd h (Nat.not_lt_zero _)
    | succ fu2 ih2 =>
      intro i ls hm2 hb_i hl
      refine lv_iload_n hx hb dX8_nextOf_2 rfl (lv_at hl 0 rfl) ?_
      refine lv_aload_n hx hb dX8_nextOf_3 rfl (lv_at hl 2 rfl) ?_
      obtain ⟨x_1, x_2, hS_w, hT_x_1, hb_x_2⟩ := hTy.k1 hT_w
      refine pl_get (ci := 1) (v := .int (nI x_2)) (C := RX1) (T := TX1) (N := 2) hx hb hT iX1 hown hK hW hT_w.1 hS_w rfl 1 (by decide) w204 rfl dX8_nextOf_4 ?_
      refine lv_icmp_ge (tgt := 54) hx hb dX8_nextOf_7 (by decide) (fun c_7 => ?_) (fun c_7 => ?_)
      · have c_7 : x_2 ≤ i := (nI_leI (a := x_2) (b := i) (by omega) (by omega)).mp c_7
        refine lv_iconst (v := (-1)) hx hb dX8_nextOf_54 (by decide) ?_
        exact W.iret (v := (-1)) hx hb hr (fun t ht h9 => ⟨(-1), rfl, Or.inl rfl, ht⟩) (fun q h => by cases h) dX8_nextOf_55
      · have c_7 : ¬ (x_2 ≤ i) := fun hh9 => c_7 ((nI_leI (a := x_2) (b := i) (by omega) (by omega)).mpr hh9)
        refine lv_aload_n hx hb dX8_nextOf_10 rfl (lv_at hl 1 rfl) ?_
        obtain ⟨x_3, x_4, x_5, hS_o, hT_x_3, hb_x_4, hT_x_5⟩ := hTy.k8 hT_o
        refine pl_get (ci := 8) (v := .ref x_5) (C := RX8) (T := TX8) (N := 3) hx hb hT iX8 hown hK hW hT_o.1 hS_o rfl 2 (by decide) w249 rfl dX8_nextOf_11 ?_
        refine lv_iload_n hx hb dX8_nextOf_14 rfl (lv_at hl 0 rfl) ?_
        obtain ⟨f_6, hS_x_5⟩ := hTy.k30 hT_x_5
        refine pl_iald hx hb hK hW hT_x_5.1 hS_x_5 (vp_in_nI (n := i) (N := 8) (by omega) (by omega)) dX8_nextOf_15 ?_
        refine lv_topi (fun y_7 ey_7 => ?_)
        refine lv_iload_n hx hb dX8_nextOf_16 rfl (lv_at hl 3 rfl) ?_
        refine lv_icmp_ne (tgt := 48) hx hb dX8_nextOf_17 (by decide) (fun c_17 => ?_) (fun c_17 => ?_)
        · refine lv_iinc (v := nI (i + 1)) (lv' := [(3, .int (nI (i + 1))), (0, .ref o), (1, .ref w), (2, .int k)]) hx hb dX8_nextOf_48 hl (k := 0) rfl (nI_add (i) 1) (by decide) rfl (fun ls hl => ?_)
          refine lv_goto (tgt := 2) hx hb dX8_nextOf_51 (by decide) ?_
          exact ih2 (i + 1) ls (by omega) (by omega) (lv_sub hl [0, 1, 2, 3] rfl)
        · refine lv_aload_n hx hb dX8_nextOf_20 rfl (lv_at hl 1 rfl) ?_
          refine pl_get (ci := 8) (v := .int (nI x_4)) (C := RX8) (T := TX8) (N := 3) hx hb hT iX8 hown hK hW hT_o.1 hS_o rfl 1 (by decide) w247 rfl dX8_nextOf_21 ?_
          refine lv_if_eq (tgt := 46) hx hb dX8_nextOf_24 (by decide) (fun c_24 => ?_) (fun c_24 => ?_)
          · have c_24 : x_4 = 0 := (nI_eq (a := x_4) (b := 0) (by omega) (by omega)).mp c_24
            refine lv_iload_n hx hb dX8_nextOf_46 rfl (lv_at hl 0 rfl) ?_
            exact W.iret (v := nI i) hx hb hr (fun t ht h9 => ⟨nI i, rfl, Or.inr ⟨i, by omega, rfl⟩, ht⟩) (fun q h => by cases h) dX8_nextOf_47
          · have c_24 : ¬ (x_4 = 0) := fun hh9 => c_24 ((nI_eq (a := x_4) (b := 0) (by omega) (by omega)).mpr hh9)
            refine lv_aload_n hx hb dX8_nextOf_27 rfl (lv_at hl 2 rfl) ?_
            refine lv_aload_n hx hb dX8_nextOf_28 rfl (lv_at hl 1 rfl) ?_
            refine pl_get (ci := 8) (v := .ref x_3) (C := RX8) (T := TX8) (N := 3) hx hb hT iX8 hown hK hW hT_o.1 hS_o rfl 0 (by decide) w245 rfl dX8_nextOf_29 ?_
            refine lv_aload_n hx hb dX8_nextOf_32 rfl (lv_at hl 1 rfl) ?_
            refine pl_get (ci := 8) (v := .int (nI x_4)) (C := RX8) (T := TX8) (N := 3) hx hb hT iX8 hown hK hW hT_o.1 hS_o rfl 1 (by decide) w247 rfl dX8_nextOf_33 ?_
            refine lv_iconst (v := 1) hx hb dX8_nextOf_36 (by decide) ?_
            refine lv_isub hx hb dX8_nextOf_37 ?_
            refine lv_topi (fun z_8 ez_8 => ?_)
            obtain rfl : z_8 = nI (x_4 - 1) := ez_8.trans (pk_sub (a := x_4) (b := 1) (by omega))
            obtain ⟨f_9, hS_x_3, hi_f_9⟩ := hTy.k42 hT_x_3
            refine pl_iald hx hb hK hW hT_x_3.1 hS_x_3 (vp_in_nI (n := x_4 - 1) (N := 8) (by omega) (by omega)) dX8_nextOf_38 ?_
            refine lv_topi (fun y_10 ey_10 => ?_)
            obtain ⟨k_11, hb_k_11, hq_k_11⟩ := hi_f_9 (x_4 - 1) (by omega)
            obtain rfl : y_10 = nI k_11 := ey_10.trans (by show f_9 (nI (x_4 - 1)).toNatClampNeg = _; rw [nI_clamp (by omega)]; exact hq_k_11)
            refine lv_iload_n hx hb dX8_nextOf_39 rfl (lv_at hl 0 rfl) ?_
            refine vp_callSi (va_Run.run (va_runV (As := [.int (nI k_11), .int (nI i)]) (rest := []) ⟨hx, hb, hml, hown, hT⟩ (s_goes l dC dI cy L kap pr S s.heap.size w k_11 i hTy hT_w (by omega) (by omega)) (cwV 2 hT (gV w951 w691 w692 w8 w693) rfl rfl rfl (by decide +kernel) ⟨(Nat.le_of_ble_eq_true rfl), (Nat.le_of_ble_eq_true rfl)⟩) ⟨pcN.blind, pl_recv hK hW hT_w.1 hS_w rfl, pcN.pre hW.1 hK hW.2.1 hN (fun q h => absurd h List.not_mem_nil)⟩ rfl rfl hl.1 rfl (lv_room (Nat.le_of_ble_eq_true rfl)) dX8_nextOf_40 ⟨(Nat.le_of_ble_eq_true rfl), (Nat.le_of_ble_eq_true rfl)⟩)) (fun r_12 hr_12 => ?_)
            refine lv_if_eq (tgt := 48) hx hb dX8_nextOf_43 (by decide) (fun c_43 => ?_) (fun c_43 => ?_)
            · refine lv_iinc (v := nI (i + 1)) (lv' := [(3, .int (nI (i + 1))), (0, .ref o), (1, .ref w), (2, .int k)]) hx hb dX8_nextOf_48 hl (k := 0) rfl (nI_add (i) 1) (by decide) rfl (fun ls hl => ?_)
              refine lv_goto (tgt := 2) hx hb dX8_nextOf_51 (by decide) ?_
              exact ih2 (i + 1) ls (by omega) (by omega) (lv_sub hl [0, 1, 2, 3] rfl)
            · refine lv_iload_n hx hb dX8_nextOf_46 rfl (lv_at hl 0 rfl) ?_
              exact W.iret (v := nI i) hx hb hr (fun t ht h9 => ⟨nI i, rfl, Or.inr ⟨i, by omega, rfl⟩, ht⟩) (fun q h => by cases h) dX8_nextOf_47
  exact loop ((9 - 0) + 1) 0 ls (Nat.lt_succ_self _) (by omega) (lv_sub hl [0, 1, 2, 3] rfl)

set_option maxHeartbeats 4000000 in
set_option maxRecDepth 100000 in
theorem s_rmeasure (l : Launch) (dC : Nat → ClassId) (dI : Nat → Nat → Nat) (cy : Nat → ClassId) (L : List Nat) (kap : Nat → Nat) (pr : Pr) (S : Nat → va_E) (sz : Nat) (o : Nat) (w : Nat) (hTy : Ty cy L kap pr S) (hT_o : TK L kap o 8) (hT_w : TK L kap w 1) : Met l yX8_measure (wT yX8_measure cX8_measure 5 none) ({ frames := 2, cells := 0, slots := 0, locals := 43 }) (pcN dC dI [.ref o, .ref w] sz (va_pl L S) (cyT cy) NLs []) (va_Qv (fun S' => Ty cy L kap pr S' ∧ Fr kap [30] S S') (fun S' t => pB dC dI (AL L sz) (va_pl L S') (cyT cy) t) (AL L sz)) 0 0 (AL L sz) := by
  refine Met.ofW (cc := cX8_measure) (maxL := 5) (ret := none) (by decide) rfl ?_
  intro p e s m args below meth c s₁ B hml hv
  obtain ⟨rfl, hsz, hP, hK, hD0, hN, -⟩ := hv
  have hx := B.exec
  have hb := B.bytes
  have hr := B.returns
  have hT : ∀ wd ∈ TB, wd.before [.ref o, .ref w].toArray s = true := fun wd h => atoms_spec (ws := wT yX8_measure cX8_measure 5 none) B.pre wd (List.mem_cons_of_mem _ h)
  have hown : s.vm.findClass RX8 = some m.cls := findClass_of_methodNamed B.named
  have hlocks := B.notSynchronized
  subst hsz
  have hW : PW dC dI L (AL L s.heap.size) s.heap S s.heap [] := ⟨hP, pl_self hD0, va_S.rf⟩
  have hA0 : ∀ q, q ∈ L → AL L s.heap.size q := fun _ h => Or.inl h
  have hA : ∀ q, s.heap.size ≤ q → AL L s.heap.size q := fun _ h => Or.inr h
  have hFr : Fr kap [30] S S := Fr.rf
  have hl := lv_entry ([.ref o, .ref w]) (n := 5) (Nat.le_of_ble_eq_true rfl)
  rw [lg_entry_eq]
  generalize (lg_sl ([.ref o, .ref w]) ++ List.replicate (5 - (lg_sl ([.ref o, .ref w])).length) Slot.unset).toArray = ls at hl ⊢
  have hl : lv_has ls 5 [(0, .ref o), (1, .ref w)] := hl
  refine lv_aload_n hx hb dX8_measure_0 rfl (lv_at hl 0 rfl) ?_
  obtain ⟨x_1, x_2, x_3, hS_o, hT_x_1, hb_x_2, hT_x_3⟩ := hTy.k8 hT_o
  refine pl_get (ci := 8) (v := .ref x_3) (C := RX8) (T := TX8) (N := 3) hx hb hT iX8 hown hK hW hT_o.1 hS_o rfl 2 (by decide) w249 rfl dX8_measure_1 ?_
  refine lv_iconst (v := 1) hx hb dX8_measure_4 (by decide) ?_
  refine pl_callv (va_runS (As := [.ref x_3, .int 1]) (rest := []) ⟨hx, hb, hml, hown, hT⟩ (s_fillI30 l dC dI cy L kap pr S s.heap.size x_3 1 hTy hT_x_3) (va_cwS 2 hT (gS w950 w86 w6 w87) rfl rfl rfl (by decide +kernel) ⟨(Nat.le_of_ble_eq_true rfl), (Nat.le_of_ble_eq_true rfl)⟩) ⟨pcN.blind, pcN.pre hW.1 hK hW.2.1 hN (fun q h => absurd h List.not_mem_nil)⟩ rfl rfl hl.1 rfl (lv_room (Nat.le_of_ble_eq_true rfl)) dX8_measure_5 ⟨(Nat.le_of_ble_eq_true rfl), (Nat.le_of_ble_eq_true rfl)⟩) hW hA0 hA (fun S_4 H locs hrel hW => ?_)
  obtain ⟨hTy, hF1⟩ := hrel
  have hFr := hFr.tr hF1 (by decide)
  have hS_o := hF1.at hT_o (by decide) hS_o
  refine lv_iconst (v := 1) hx hb dX8_measure_8 (by decide) ?_
  refine lv_istore_n (lv' := [(2, .int 1), (0, .ref o), (1, .ref w)]) hx hb dX8_measure_9 rfl hl (by decide) rfl (fun ls hl => ?_)
  have loop : ∀ (fuel : Nat) (i1 : Nat) (SS : Nat → va_E) (H : Heap) (locs : List Loc) (ls : Array Slot), 9 - i1 < fuel → (i1 ≤ 8) → Ty cy L kap pr SS → Fr kap [30] S SS → Fr kap [30] S_4 SS → PW dC dI L (AL L s.heap.size) s.heap SS H locs → lv_has ls 5 [(2, .int (nI i1)), (0, .ref o), (1, .ref w)] → W p l e (headSpec (wT yX8_measure cX8_measure 5 none) { frames := 2, cells := 0, slots := 0, locals := 43 }).room s m [.ref o, .ref w].toArray below meth c H locs 0 0 (MQ below (va_Qv (fun S' => Ty cy L kap pr S' ∧ Fr kap [30] S S') (fun S' t => pB dC dI (AL L s.heap.size) (va_pl L S') (cyT cy) t) (AL L s.heap.size)) [.ref o, .ref w].toArray s 0 0 (AL L s.heap.size)) (F0 m 10 ls []) := by
    intro fuel
    induction fuel with
    | zero => intro i1 SS H locs ls h; exact absurd h (Nat.not_lt_zero _)
    | succ fu10 ih10 =>
      intro i1 S_5 H locs ls hm10 hb_i1 hTy hFr hFl10 hW hl
      have hS_o := hFl10.at hT_o (by decide) hS_o
      refine lv_iload_n hx hb dX8_measure_10 rfl (lv_at hl 0 rfl) ?_
      refine lv_aload_n hx hb dX8_measure_11 rfl (lv_at hl 2 rfl) ?_
      obtain ⟨x_6, x_7, hS_w, hT_x_6, hb_x_7⟩ := hTy.k1 hT_w
      refine pl_get (ci := 1) (v := .int (nI x_7)) (C := RX1) (T := TX1) (N := 2) hx hb hT iX1 hown hK hW hT_w.1 hS_w rfl 1 (by decide) w204 rfl dX8_measure_12 ?_
      refine lv_icmp_ge (tgt := 99) hx hb dX8_measure_15 (by decide) (fun c_15 => ?_) (fun c_15 => ?_)
      · have c_15 : x_7 ≤ i1 := (nI_leI (a := x_7) (b := i1) (by omega) (by omega)).mp c_15
        exact W.vret hx hb hr (fun t ht h9 => ⟨⟨S_5, rfl, ⟨hTy, hFr⟩, by rw [ht]; exact hW.1, va_K.moved h9.alike hK, hW.2.1⟩, hW.2.2.F ht⟩) hW.2.2.2.2 dX8_measure_99
      · have c_15 : ¬ (x_7 ≤ i1) := fun hh9 => c_15 ((nI_leI (a := x_7) (b := i1) (by omega) (by omega)).mpr hh9)
        refine lv_iconst (v := 0) hx hb dX8_measure_18 (by decide) ?_
        refine lv_istore_n (lv' := [(3, .int 0), (2, .int (nI i1)), (0, .ref o), (1, .ref w)]) hx hb dX8_measure_19 rfl hl (by decide) rfl (fun ls hl => ?_)
        have loop : ∀ (fuel : Nat) (i2 : Nat) (SS : Nat → va_E) (H : Heap) (locs : List Loc) (ls : Array Slot), 9 - i2 < fuel → (i2 ≤ 8) → Ty cy L kap pr SS → Fr kap [30] S SS → Fr kap [30] S_5 SS → PW dC dI L (AL L s.heap.size) s.heap SS H locs → lv_has ls 5 [(3, .int (nI i2)), (2, .int (nI i1)), (0, .ref o), (1, .ref w)] → W p l e (headSpec (wT yX8_measure cX8_measure 5 none) { frames := 2, cells := 0, slots := 0, locals := 43 }).room s m [.ref o, .ref w].toArray below meth c H locs 0 0 (MQ below (va_Qv (fun S' => Ty cy L kap pr S' ∧ Fr kap [30] S S') (fun S' t => pB dC dI (AL L s.heap.size) (va_pl L S') (cyT cy) t) (AL L s.heap.size)) [.ref o, .ref w].toArray s 0 0 (AL L s.heap.size)) (F0 m 20 ls []) := by
          intro fuel
          induction fuel with
          | zero => intro i2 SS H locs ls h; exact absurd h (Nat.not_lt_zero _)
          | succ fu20 ih20 =>
            intro i2 S_8 H locs ls hm20 hb_i2 hTy hFr hFl20 hW hl
            have hS_o := hFl20.at hT_o (by decide) hS_o
            have hS_w := hFl20.at hT_w (by decide) hS_w
            have hFl10 := hFl10.tr hFl20 (by decide)
            refine lv_iload_n hx hb dX8_measure_20 rfl (lv_at hl 0 rfl) ?_
            refine lv_aload_n hx hb dX8_measure_21 rfl (lv_at hl 3 rfl) ?_
            refine pl_get (ci := 1) (v := .int (nI x_7)) (C := RX1) (T := TX1) (N := 2) hx hb hT iX1 hown hK hW hT_w.1 hS_w rfl 1 (by decide) w204 rfl dX8_measure_22 ?_
            refine lv_icmp_ge (tgt := 93) hx hb dX8_measure_25 (by decide) (fun c_25 => ?_) (fun c_25 => ?_)
            · have c_25 : x_7 ≤ i2 := (nI_leI (a := x_7) (b := i2) (by omega) (by omega)).mp c_25
              refine lv_iinc (v := nI (i1 + 1)) (lv' := [(2, .int (nI (i1 + 1))), (3, .int (nI i2)), (0, .ref o), (1, .ref w)]) hx hb dX8_measure_93 hl (k := 1) rfl (nI_add (i1) 1) (by decide) rfl (fun ls hl => ?_)
              refine lv_goto (tgt := 10) hx hb dX8_measure_96 (by decide) ?_
              exact ih10 (i1 + 1) _ _ _ ls (by omega) (by omega) hTy hFr hFl10 hW (lv_sub hl [0, 2, 3] rfl)
            · have c_25 : ¬ (x_7 ≤ i2) := fun hh9 => c_25 ((nI_leI (a := x_7) (b := i2) (by omega) (by omega)).mpr hh9)
              refine lv_iconst (v := 0) hx hb dX8_measure_28 (by decide) ?_
              refine lv_istore (lv' := [(4, .int 0), (3, .int (nI i2)), (2, .int (nI i1)), (0, .ref o), (1, .ref w)]) hx hb dX8_measure_29 hl (by decide) rfl (fun ls hl => ?_)
              have loop : ∀ (fuel : Nat) (i3 : Nat) (SS : Nat → va_E) (H : Heap) (locs : List Loc) (ls : Array Slot), 9 - i3 < fuel → (i3 ≤ 8) → Ty cy L kap pr SS → Fr kap [30] S SS → Fr kap [30] S_8 SS → PW dC dI L (AL L s.heap.size) s.heap SS H locs → lv_has ls 5 [(4, .int (nI i3)), (3, .int (nI i2)), (2, .int (nI i1)), (0, .ref o), (1, .ref w)] → W p l e (headSpec (wT yX8_measure cX8_measure 5 none) { frames := 2, cells := 0, slots := 0, locals := 43 }).room s m [.ref o, .ref w].toArray below meth c H locs 0 0 (MQ below (va_Qv (fun S' => Ty cy L kap pr S' ∧ Fr kap [30] S S') (fun S' t => pB dC dI (AL L s.heap.size) (va_pl L S') (cyT cy) t) (AL L s.heap.size)) [.ref o, .ref w].toArray s 0 0 (AL L s.heap.size)) (F0 m 31 ls []) := by
                intro fuel
                induction fuel with
                | zero => intro i3 SS H locs ls h; exact absurd h (Nat.not_lt_zero _)
                | succ fu31 ih31 =>
                  intro i3 S_9 H locs ls hm31 hb_i3 hTy hFr hFl31 hW hl
                  have hS_o := hFl31.at hT_o (by decide) hS_o
                  have hS_w := hFl31.at hT_w (by decide) hS_w
                  have hFl10 := hFl10.tr hFl31 (by decide)
                  have hFl20 := hFl20.tr hFl31 (by decide)
                  refine lv_iload hx hb dX8_measure_31 (lv_at hl 0 rfl) ?_
                  refine lv_aload_n hx hb dX8_measure_33 rfl (lv_at hl 4 rfl) ?_
                  refine pl_get (ci := 1) (v := .int (nI x_7)) (C := RX1) (T := TX1) (N := 2) hx hb hT iX1 hown hK hW hT_w.1 hS_w rfl 1 (by decide) w204 rfl dX8_measure_34 ?_
                  refine lv_icmp_ge (tgt := 87) hx hb dX8_measure_37 (by decide) (fun c_37 => ?_) (fun c_37 => ?_)
                  · have c_37 : x_7 ≤ i3 := (nI_leI (a := x_7) (b := i3) (by omega) (by omega)).mp c_37
                    refine lv_iinc (v := nI (i2 + 1)) (lv' := [(3, .int (nI (i2 + 1))), (4, .int (nI i3)), (2, .int (nI i1)), (0, .ref o), (1, .ref w)]) hx hb dX8_measure_87 hl (k := 1) rfl (nI_add (i2) 1) (by decide) rfl (fun ls hl => ?_)
                    refine lv_goto (tgt := 20) hx hb dX8_measure_90 (by decide) ?_
                    exact ih20 (i2 + 1) _ _ _ ls (by omega) (by omega) hTy hFr hFl20 hW (lv_sub hl [0, 2, 3, 4] rfl)
                  · have c_37 : ¬ (x_7 ≤ i3) := fun hh9 => c_37 ((nI_leI (a := x_7) (b := i3) (by omega) (by omega)).mpr hh9)
                    refine lv_aload_n hx hb dX8_measure_40 rfl (lv_at hl 4 rfl) ?_
                    refine lv_iload_n hx hb dX8_measure_41 rfl (lv_at hl 1 rfl) ?_
                    refine lv_iload hx hb dX8_measure_42 (lv_at hl 0 rfl) ?_
                    refine vp_callSi (va_Run.run (va_runV (As := [.int (nI i2), .int (nI i3)]) (rest := []) ⟨hx, hb, hml, hown, hT⟩ (s_goes l dC dI cy L kap pr S_9 H.size w i2 i3 hTy hT_w (by omega) (by omega)) (cwV 2 hT (gV w951 w691 w692 w8 w693) rfl rfl rfl (by decide +kernel) ⟨(Nat.le_of_ble_eq_true rfl), (Nat.le_of_ble_eq_true rfl)⟩) ⟨pcN.blind, pl_recv hK hW hT_w.1 hS_w rfl, pcN.pre hW.1 hK hW.2.1 hN (fun q h => absurd h List.not_mem_nil)⟩ rfl rfl hl.1 rfl (lv_room (Nat.le_of_ble_eq_true rfl)) dX8_measure_44 ⟨(Nat.le_of_ble_eq_true rfl), (Nat.le_of_ble_eq_true rfl)⟩)) (fun r_10 hr_10 => ?_)
                    refine lv_if_eq (tgt := 81) hx hb dX8_measure_47 (by decide) (fun c_47 => ?_) (fun c_47 => ?_)
                    · refine lv_iinc (v := nI (i3 + 1)) (lv' := [(4, .int (nI (i3 + 1))), (3, .int (nI i2)), (2, .int (nI i1)), (0, .ref o), (1, .ref w)]) hx hb dX8_measure_81 hl (k := 0) rfl (nI_add (i3) 1) (by decide) rfl (fun ls hl => ?_)
                      refine lv_goto (tgt := 31) hx hb dX8_measure_84 (by decide) ?_
                      exact ih31 (i3 + 1) _ _ _ ls (by omega) (by omega) hTy hFr hFl31 hW (lv_sub hl [0, 1, 2, 3, 4] rfl)
                    · refine lv_aload_n hx hb dX8_measure_50 rfl (lv_at hl 3 rfl) ?_
                      refine pl_get (ci := 8) (v := .ref x_3) (C := RX8) (T := TX8) (N := 3) hx hb hT iX8 hown hK hW hT_o.1 hS_o rfl 2 (by decide) w249 rfl dX8_measure_51 ?_
                      refine lv_iload_n hx hb dX8_measure_54 rfl (lv_at hl 1 rfl) ?_
                      obtain ⟨f_11, hS_x_3⟩ := hTy.k30 hT_x_3
                      refine pl_iald hx hb hK hW hT_x_3.1 hS_x_3 (vp_in_nI (n := i2) (N := 8) (by omega) (by omega)) dX8_measure_55 ?_
                      refine lv_topi (fun y_12 ey_12 => ?_)
                      refine lv_aload_n hx hb dX8_measure_56 rfl (lv_at hl 3 rfl) ?_
                      refine pl_get (ci := 8) (v := .ref x_3) (C := RX8) (T := TX8) (N := 3) hx hb hT iX8 hown hK hW hT_o.1 hS_o rfl 2 (by decide) w249 rfl dX8_measure_57 ?_
                      refine lv_iload hx hb dX8_measure_60 (lv_at hl 0 rfl) ?_
                      refine pl_iald hx hb hK hW hT_x_3.1 hS_x_3 (vp_in_nI (n := i3) (N := 8) (by omega) (by omega)) dX8_measure_62 ?_
                      refine lv_topi (fun y_13 ey_13 => ?_)
                      refine lv_icmp_gt (tgt := 81) hx hb dX8_measure_63 (by decide) (fun c_63 => ?_) (fun c_63 => ?_)
                      · refine lv_iinc (v := nI (i3 + 1)) (lv' := [(4, .int (nI (i3 + 1))), (3, .int (nI i2)), (2, .int (nI i1)), (0, .ref o), (1, .ref w)]) hx hb dX8_measure_81 hl (k := 0) rfl (nI_add (i3) 1) (by decide) rfl (fun ls hl => ?_)
                        refine lv_goto (tgt := 31) hx hb dX8_measure_84 (by decide) ?_
                        exact ih31 (i3 + 1) _ _ _ ls (by omega) (by omega) hTy hFr hFl31 hW (lv_sub hl [0, 1, 2, 3, 4] rfl)
                      · refine lv_aload_n hx hb dX8_measure_66 rfl (lv_at hl 3 rfl) ?_
                        refine pl_get (ci := 8) (v := .ref x_3) (C := RX8) (T := TX8) (N := 3) hx hb hT iX8 hown hK hW hT_o.1 hS_o rfl 2 (by decide) w249 rfl dX8_measure_67 ?_
                        refine lv_iload_n hx hb dX8_measure_70 rfl (lv_at hl 1 rfl) ?_
                        refine lv_aload_n hx hb dX8_measure_71 rfl (lv_at hl 3 rfl) ?_
                        refine pl_get (ci := 8) (v := .ref x_3) (C := RX8) (T := TX8) (N := 3) hx hb hT iX8 hown hK hW hT_o.1 hS_o rfl 2 (by decide) w249 rfl dX8_measure_72 ?_
                        refine lv_iload hx hb dX8_measure_75 (lv_at hl 0 rfl) ?_
                        refine pl_iald hx hb hK hW hT_x_3.1 hS_x_3 (vp_in_nI (n := i3) (N := 8) (by omega) (by omega)) dX8_measure_77 ?_
                        refine lv_topi (fun y_14 ey_14 => ?_)
                        refine lv_iconst (v := 1) hx hb dX8_measure_78 (by decide) ?_
                        refine lv_iadd hx hb dX8_measure_79 ?_
                        refine lv_topi (fun z_15 ez_15 => ?_)
                        refine pl_iast hx hb hK hW hT_x_3.1 hS_x_3 (vp_in_nI (n := i2) (N := 8) (by omega) (by omega)) dX8_measure_80 (fun H locs f_17 S_16 ef_f_17 e1 hW => ?_)
                        have hTy := hTy.u30 e1 hT_x_3 ⟨f_17, rfl⟩
                        have hS_o := un e1 hT_o hT_x_3 (by decide) hS_o
                        have hS_w := un e1 hT_w hT_x_3 (by decide) hS_w
                        have hFr := uf hFr e1 hT_x_3 (by decide) (by decide)
                        have hFl10 := uf hFl10 e1 hT_x_3 (by decide) (by decide)
                        have hFl20 := uf hFl20 e1 hT_x_3 (by decide) (by decide)
                        have hFl31 := uf hFl31 e1 hT_x_3 (by decide) (by decide)
                        have hS_x_3 := us e1
                        refine lv_iinc (v := nI (i3 + 1)) (lv' := [(4, .int (nI (i3 + 1))), (3, .int (nI i2)), (2, .int (nI i1)), (0, .ref o), (1, .ref w)]) hx hb dX8_measure_81 hl (k := 0) rfl (nI_add (i3) 1) (by decide) rfl (fun ls hl => ?_)
                        refine lv_goto (tgt := 31) hx hb dX8_measure_84 (by decide) ?_
                        exact ih31 (i3 + 1) _ _ _ ls (by omega) (by omega) hTy hFr hFl31 hW (lv_sub hl [0, 1, 2, 3, 4] rfl)
              exact loop ((9 - 0) + 1) 0 _ _ _ ls (Nat.lt_succ_self _) (by omega) hTy hFr Fr.rf hW (lv_sub hl [0, 1, 2, 3, 4] rfl)
        exact loop ((9 - 0) + 1) 0 _ _ _ ls (Nat.lt_succ_self _) (by omega) hTy hFr Fr.rf hW (lv_sub hl [0, 1, 2, 3] rfl)
  exact loop ((9 - 1) + 1) 1 _ _ _ ls (Nat.lt_succ_self _) (by omega) hTy hFr Fr.rf hW (lv_sub hl [0, 1, 2] rfl)

set_option maxHeartbeats 4000000 in
set_option maxRecDepth 100000 in
theorem s_rfind (l : Launch) (dC : Nat → ClassId) (dI : Nat → Nat → Nat) (cy : Nat → ClassId) (L : List Nat) (kap : Nat → Nat) (pr : Pr) (S : Nat → va_E) (sz : Nat) (o : Nat) (w : Nat) (hTy : Ty cy L kap pr S) (hT_o : TK L kap o 8) (hT_w : TK L kap w 1) : Met l yX8_find (wT yX8_find cX8_find 5 none) ({ frames := 3, cells := 0, slots := 0, locals := 67 }) (pcN dC dI [.ref o, .ref w] sz (va_pl L S) (cyT cy) NLs []) (va_Qv (fun S' => Ty cy L kap pr S' ∧ Fr kap [8, 30, 42] S S') (fun S' t => pB dC dI (AL L sz) (va_pl L S') (cyT cy) t) (AL L sz)) 0 0 (AL L sz) := by
  refine Met.ofW (cc := cX8_find) (maxL := 5) (ret := none) (by decide) rfl ?_
  intro p e s m args below meth c s₁ B hml hv
  obtain ⟨rfl, hsz, hP, hK, hD0, hN, -⟩ := hv
  have hx := B.exec
  have hb := B.bytes
  have hr := B.returns
  have hT : ∀ wd ∈ TB, wd.before [.ref o, .ref w].toArray s = true := fun wd h => atoms_spec (ws := wT yX8_find cX8_find 5 none) B.pre wd (List.mem_cons_of_mem _ h)
  have hown : s.vm.findClass RX8 = some m.cls := findClass_of_methodNamed B.named
  have hlocks := B.notSynchronized
  subst hsz
  have hW : PW dC dI L (AL L s.heap.size) s.heap S s.heap [] := ⟨hP, pl_self hD0, va_S.rf⟩
  have hA0 : ∀ q, q ∈ L → AL L s.heap.size q := fun _ h => Or.inl h
  have hA : ∀ q, s.heap.size ≤ q → AL L s.heap.size q := fun _ h => Or.inr h
  have hFr : Fr kap [8, 30, 42] S S := Fr.rf
  have hl := lv_entry ([.ref o, .ref w]) (n := 5) (Nat.le_of_ble_eq_true rfl)
  rw [lg_entry_eq]
  generalize (lg_sl ([.ref o, .ref w]) ++ List.replicate (5 - (lg_sl ([.ref o, .ref w])).length) Slot.unset).toArray = ls at hl ⊢
  have hl : lv_has ls 5 [(0, .ref o), (1, .ref w)] := hl
  refine lv_aload_n hx hb dX8_find_0 rfl (lv_at hl 0 rfl) ?_
  refine lv_aload_n hx hb dX8_find_1 rfl (lv_at hl 1 rfl) ?_
  obtain ⟨x_1, x_2, x_3, hS_o, hT_x_1, hb_x_2, hT_x_3⟩ := hTy.k8 hT_o
  refine pl_callv (va_runV (As := [.ref w]) (rest := []) ⟨hx, hb, hml, hown, hT⟩ (s_rmeasure l dC dI cy L kap pr S s.heap.size o w hTy hT_o hT_w) (cwV 1 hT (gV w946 w948 ws46 w10 w949) rfl rfl rfl (by decide +kernel) ⟨(Nat.le_of_ble_eq_true rfl), (Nat.le_of_ble_eq_true rfl)⟩) ⟨pcN.blind, pl_recv hK hW hT_o.1 hS_o rfl, pcN.pre hW.1 hK hW.2.1 hN (fun q h => absurd h List.not_mem_nil)⟩ rfl rfl hl.1 rfl (lv_room (Nat.le_of_ble_eq_true rfl)) dX8_find_2 ⟨(Nat.le_of_ble_eq_true rfl), (Nat.le_of_ble_eq_true rfl)⟩) hW hA0 hA (fun S_4 H locs hrel hW => ?_)
  obtain ⟨hTy, hF1⟩ := hrel
  have hFr := hFr.tr hF1 (by decide)
  have hS_o := hF1.at hT_o (by decide) hS_o
  refine lv_aload_n hx hb dX8_find_5 rfl (lv_at hl 0 rfl) ?_
  refine lv_iconst (v := 0) hx hb dX8_find_6 (by decide) ?_
  refine pl_put (ci := 8) (v := .int 0) (ty := .int) (C := RX8) (T := TX8) (N := 3) (fs' := [.ref x_1, .int 0, .ref x_3]) hx hb hT iX8 tyX8 tyX8_ok nmX8 hown hK hW hT_o.1 hS_o rfl 1 (by decide) w247 rfl (by decide +kernel) rfl rfl (Nat.le_of_ble_eq_true rfl) rfl dX8_find_7 (fun H locs S_5 e1 hW => ?_)
  have hTy := hTy.u8 e1 hT_o ⟨x_1, 0, x_3, rfl, hT_x_1, (by omega), hT_x_3⟩
  have hFr := uf hFr e1 hT_o (by decide) (by decide)
  have hS_o := us e1
  refine lv_iconst (v := 0) hx hb dX8_find_10 (by decide) ?_
  refine lv_istore_n (lv' := [(2, .int 0), (0, .ref o), (1, .ref w)]) hx hb dX8_find_11 rfl hl (by decide) rfl (fun ls hl => ?_)
  refine lv_iconst (v := 0) hx hb dX8_find_12 (by decide) ?_
  refine lv_istore_n (lv' := [(3, .int 0), (2, .int 0), (0, .ref o), (1, .ref w)]) hx hb dX8_find_13 rfl hl (by decide) rfl (fun ls hl => ?_)
  have loop : ∀ (fuel : Nat) (i : Nat) (ln : Int32) (SS : Nat → va_E) (H : Heap) (locs : List Loc) (ls : Array Slot), 9 - i < fuel → (i ≤ 8) → Ty cy L kap pr SS → Fr kap [8, 30, 42] S SS → Fr kap [] S_5 SS → PW dC dI L (AL L s.heap.size) s.heap SS H locs → lv_has ls 5 [(3, .int (nI i)), (2, .int ln), (0, .ref o), (1, .ref w)] → W p l e (headSpec (wT yX8_find cX8_find 5 none) { frames := 3, cells := 0, slots := 0, locals := 67 }).room s m [.ref o, .ref w].toArray below meth c H locs 0 0 (MQ below (va_Qv (fun S' => Ty cy L kap pr S' ∧ Fr kap [8, 30, 42] S S') (fun S' t => pB dC dI (AL L s.heap.size) (va_pl L S') (cyT cy) t) (AL L s.heap.size)) [.ref o, .ref w].toArray s 0 0 (AL L s.heap.size)) (F0 m 14 ls []) := by
    intro fuel
    induction fuel with
    | zero => intro i ln SS H locs ls h; exact absurd h (Nat.not_lt_zero _)
    | succ fu14 ih14 =>
      intro i ln S_6 H locs ls hm14 hb_i hTy hFr hFl14 hW hl
      have hS_o := hFl14.at hT_o (by decide) hS_o
      refine lv_iload_n hx hb dX8_find_14 rfl (lv_at hl 0 rfl) ?_
      refine lv_aload_n hx hb dX8_find_15 rfl (lv_at hl 3 rfl) ?_
      obtain ⟨x_7, x_8, hS_w, hT_x_7, hb_x_8⟩ := hTy.k1 hT_w
      refine pl_get (ci := 1) (v := .int (nI x_8)) (C := RX1) (T := TX1) (N := 2) hx hb hT iX1 hown hK hW hT_w.1 hS_w rfl 1 (by decide) w204 rfl dX8_find_16 ?_
      refine lv_icmp_ge (tgt := 39) hx hb dX8_find_19 (by decide) (fun c_19 => ?_) (fun c_19 => ?_)
      · have c_19 : x_8 ≤ i := (nI_leI (a := x_8) (b := i) (by omega) (by omega)).mp c_19
        refine lv_iload_n hx hb dX8_find_39 rfl (lv_at hl 1 rfl) ?_
        refine lv_iconst (v := 2) hx hb dX8_find_40 (by decide) ?_
        refine lv_icmp_ge (tgt := 45) hx hb dX8_find_41 (by decide) (fun c_41 => ?_) (fun c_41 => ?_)
        · refine lv_iconst (v := 0) hx hb dX8_find_45 (by decide) ?_
          refine lv_istore_n (lv' := [(3, .int 0), (2, .int ln), (0, .ref o), (1, .ref w)]) hx hb dX8_find_46 rfl hl (by decide) rfl (fun ls hl => ?_)
          have loop : ∀ (fuel : Nat) (i2 : Nat) (n : Nat) (SS : Nat → va_E) (H : Heap) (locs : List Loc) (ls : Array Slot), 9 - i2 < fuel → (i2 ≤ 8) → (∃ (x0 x2 : Nat), SS o = .inr (8, [.ref x0, .int (nI n), .ref x2])) → (n ≤ i2) → Ty cy L kap pr SS → Fr kap [8, 30, 42] S SS → Fr kap [8, 42] S_6 SS → PW dC dI L (AL L s.heap.size) s.heap SS H locs → lv_has ls 5 [(3, .int (nI i2)), (2, .int ln), (0, .ref o), (1, .ref w)] → W p l e (headSpec (wT yX8_find cX8_find 5 none) { frames := 3, cells := 0, slots := 0, locals := 67 }).room s m [.ref o, .ref w].toArray below meth c H locs 0 0 (MQ below (va_Qv (fun S' => Ty cy L kap pr S' ∧ Fr kap [8, 30, 42] S S') (fun S' t => pB dC dI (AL L s.heap.size) (va_pl L S') (cyT cy) t) (AL L s.heap.size)) [.ref o, .ref w].toArray s 0 0 (AL L s.heap.size)) (F0 m 47 ls []) := by
            intro fuel
            induction fuel with
            | zero => intro i2 n SS H locs ls h; exact absurd h (Nat.not_lt_zero _)
            | succ fu47 ih47 =>
              intro i2 n S_9 H locs ls hm47 hb_i2 hz hni hTy hFr hFl47 hW hl
              have hS_w := hFl47.at hT_w (by decide) hS_w
              obtain ⟨x_10, x_11, x_12, hS_o, hT_x_10, hb_x_11, hT_x_12⟩ := hTy.k8 hT_o
              obtain ⟨z1, z2, hzz⟩ := hz
              have ez := rfix (by omega) (by omega) hS_o hzz
              rw [ez] at hS_o
              refine lv_iload_n hx hb dX8_find_47 rfl (lv_at hl 0 rfl) ?_
              refine lv_iload_n hx hb dX8_find_48 rfl (lv_at hl 1 rfl) ?_
              refine lv_icmp_ge (tgt := 102) hx hb dX8_find_49 (by decide) (fun c_49 => ?_) (fun c_49 => ?_)
              · exact W.vret hx hb hr (fun t ht h9 => ⟨⟨S_9, rfl, ⟨hTy, hFr⟩, by rw [ht]; exact hW.1, va_K.moved h9.alike hK, hW.2.1⟩, hW.2.2.F ht⟩) hW.2.2.2.2 dX8_find_102
              · refine lv_iload_n hx hb dX8_find_52 rfl (lv_at hl 0 rfl) ?_
                refine lv_bipush (v := 8) hx hb dX8_find_53 (by decide) ?_
                refine lv_icmp_ge (tgt := 102) hx hb dX8_find_55 (by decide) (fun c_55 => ?_) (fun c_55 => ?_)
                · have c_55 : 8 ≤ i2 := (nI_leI (a := 8) (b := i2) (by omega) (by omega)).mp c_55
                  exact W.vret hx hb hr (fun t ht h9 => ⟨⟨S_9, rfl, ⟨hTy, hFr⟩, by rw [ht]; exact hW.1, va_K.moved h9.alike hK, hW.2.1⟩, hW.2.2.F ht⟩) hW.2.2.2.2 dX8_find_102
                · have c_55 : ¬ (8 ≤ i2) := fun hh9 => c_55 ((nI_leI (a := 8) (b := i2) (by omega) (by omega)).mpr hh9)
                  refine lv_aload_n hx hb dX8_find_58 rfl (lv_at hl 2 rfl) ?_
                  refine lv_aload_n hx hb dX8_find_59 rfl (lv_at hl 3 rfl) ?_
                  refine lv_iload_n hx hb dX8_find_60 rfl (lv_at hl 1 rfl) ?_
                  refine lv_iload_n hx hb dX8_find_61 rfl (lv_at hl 0 rfl) ?_
                  refine lv_isub hx hb dX8_find_62 ?_
                  refine lv_topi (fun z_13 ez_13 => ?_)
                  refine vp_callSi (va_Run.run (va_runV (As := [.ref w, .int z_13]) (rest := []) ⟨hx, hb, hml, hown, hT⟩ (s_rnext l dC dI cy L kap pr S_9 H.size o w z_13 hTy hT_o hT_w) (cwV 2 hT (gV w955 w957 ws47 w10 w958) rfl rfl rfl (by decide +kernel) ⟨(Nat.le_of_ble_eq_true rfl), (Nat.le_of_ble_eq_true rfl)⟩) ⟨pcN.blind, pl_recv hK hW hT_o.1 hS_o rfl, pcN.pre hW.1 hK hW.2.1 hN (fun q h => absurd h List.not_mem_nil)⟩ rfl rfl hl.1 rfl (lv_room (Nat.le_of_ble_eq_true rfl)) dX8_find_63 ⟨(Nat.le_of_ble_eq_true rfl), (Nat.le_of_ble_eq_true rfl)⟩)) (fun r_14 hr_14 => ?_)
                  have hfo := hr_14
                  refine lv_istore (lv' := [(4, .int r_14), (3, .int (nI i2)), (2, .int ln), (0, .ref o), (1, .ref w)]) hx hb dX8_find_66 hl (by decide) rfl (fun ls hl => ?_)
                  refine lv_iload hx hb dX8_find_68 (lv_at hl 0 rfl) ?_
                  refine lv_iconst (v := (-1)) hx hb dX8_find_70 (by decide) ?_
                  refine lv_icmp_ne (tgt := 75) hx hb dX8_find_71 (by decide) (fun c_71 => ?_) (fun c_71 => ?_)
                  · obtain ⟨kg, hkg, rfl⟩ := hfo.resolve_left c_71
                    refine lv_aload_n hx hb dX8_find_75 rfl (lv_at hl 3 rfl) ?_
                    refine pl_get (ci := 8) (v := .ref x_10) (C := RX8) (T := TX8) (N := 3) hx hb hT iX8 hown hK hW hT_o.1 hS_o rfl 0 (by decide) w245 rfl dX8_find_76 ?_
                    refine lv_aload_n hx hb dX8_find_79 rfl (lv_at hl 3 rfl) ?_
                    refine pl_get (ci := 8) (v := .int (nI n)) (C := RX8) (T := TX8) (N := 3) hx hb hT iX8 hown hK hW hT_o.1 hS_o rfl 1 (by decide) w247 rfl dX8_find_80 ?_
                    refine lv_iload hx hb dX8_find_83 (lv_at hl 0 rfl) ?_
                    obtain ⟨f_15, hS_x_10, hi_f_15⟩ := hTy.k42 hT_x_10
                    refine pl_iast hx hb hK hW hT_x_10.1 hS_x_10 (vp_in_nI (n := n) (N := 8) (by omega) (by omega)) dX8_find_85 (fun H locs f_17 S_16 ef_f_17 e1 hW => ?_)
                    have hi_f_17 := inv_up hi_f_15 ef_f_17 ⟨kg, by omega, rfl⟩
                    have hTy := hTy.u42 e1 hT_x_10 ⟨f_17, rfl, hi_f_17⟩
                    have hS_w := un e1 hT_w hT_x_10 (by decide) hS_w
                    have hS_o := un e1 hT_o hT_x_10 (by decide) hS_o
                    have hFr := uf hFr e1 hT_x_10 (by decide) (by decide)
                    have hFl47 := uf hFl47 e1 hT_x_10 (by decide) (by decide)
                    have hS_x_10 := us e1
                    refine lv_aload_n hx hb dX8_find_86 rfl (lv_at hl 3 rfl) ?_
                    refine lv_dup hx hb dX8_find_87 rfl ?_
                    refine pl_get (ci := 8) (v := .int (nI n)) (C := RX8) (T := TX8) (N := 3) hx hb hT iX8 hown hK hW hT_o.1 hS_o rfl 1 (by decide) w247 rfl dX8_find_88 ?_
                    refine lv_iconst (v := 1) hx hb dX8_find_91 (by decide) ?_
                    refine lv_iadd hx hb dX8_find_92 ?_
                    refine lv_topi (fun z_18 ez_18 => ?_)
                    obtain rfl : z_18 = nI (n + 1) := ez_18.trans (nI_add (n) (1))
                    refine pl_put (ci := 8) (v := .int (nI (n + 1))) (ty := .int) (C := RX8) (T := TX8) (N := 3) (fs' := [.ref x_10, .int (nI (n + 1)), .ref x_12]) hx hb hT iX8 tyX8 tyX8_ok nmX8 hown hK hW hT_o.1 hS_o rfl 1 (by decide) w247 rfl (by decide +kernel) rfl rfl (Nat.le_of_ble_eq_true rfl) rfl dX8_find_93 (fun H locs S_19 e1 hW => ?_)
                    have hTy := hTy.u8 e1 hT_o ⟨x_10, n + 1, x_12, rfl, hT_x_10, (by omega), hT_x_12⟩
                    have hS_w := un e1 hT_w hT_o (by decide) hS_w
                    have hS_x_10 := un e1 hT_x_10 hT_o (by decide) hS_x_10
                    have hFr := uf hFr e1 hT_o (by decide) (by decide)
                    have hFl47 := uf hFl47 e1 hT_o (by decide) (by decide)
                    have hS_o := us e1
                    refine lv_iinc (v := nI (i2 + 1)) (lv' := [(3, .int (nI (i2 + 1))), (4, .int (nI kg)), (2, .int ln), (0, .ref o), (1, .ref w)]) hx hb dX8_find_96 hl (k := 1) rfl (nI_add (i2) 1) (by decide) rfl (fun ls hl => ?_)
                    refine lv_goto (tgt := 47) hx hb dX8_find_99 (by decide) ?_
                    exact ih47 (i2 + 1) (n + 1) _ _ _ ls (by omega) (by omega) ⟨_, _, hS_o⟩ (by omega) hTy hFr hFl47 hW (lv_sub hl [0, 2, 3, 4] rfl)
                  · exact W.vret hx hb hr (fun t ht h9 => ⟨⟨S_9, rfl, ⟨hTy, hFr⟩, by rw [ht]; exact hW.1, va_K.moved h9.alike hK, hW.2.1⟩, hW.2.2.F ht⟩) hW.2.2.2.2 dX8_find_74
          exact loop ((9 - 0) + 1) 0 0 _ _ _ ls (Nat.lt_succ_self _) (by omega) ⟨_, _, hS_o⟩ (by omega) hTy hFr Fr.rf hW (lv_sub hl [0, 1, 2, 3] rfl)
        · exact W.vret hx hb hr (fun t ht h9 => ⟨⟨S_6, rfl, ⟨hTy, hFr⟩, by rw [ht]; exact hW.1, va_K.moved h9.alike hK, hW.2.1⟩, hW.2.2.F ht⟩) hW.2.2.2.2 dX8_find_44
      · have c_19 : ¬ (x_8 ≤ i) := fun hh9 => c_19 ((nI_leI (a := x_8) (b := i) (by omega) (by omega)).mpr hh9)
        refine lv_iload_n hx hb dX8_find_22 rfl (lv_at hl 1 rfl) ?_
        refine lv_aload_n hx hb dX8_find_23 rfl (lv_at hl 2 rfl) ?_
        refine pl_get (ci := 8) (v := .ref x_3) (C := RX8) (T := TX8) (N := 3) hx hb hT iX8 hown hK hW hT_o.1 hS_o rfl 2 (by decide) w249 rfl dX8_find_24 ?_
        refine lv_iload_n hx hb dX8_find_27 rfl (lv_at hl 0 rfl) ?_
        obtain ⟨f_20, hS_x_3⟩ := hTy.k30 hT_x_3
        refine pl_iald hx hb hK hW hT_x_3.1 hS_x_3 (vp_in_nI (n := i) (N := 8) (by omega) (by omega)) dX8_find_28 ?_
        refine lv_topi (fun y_21 ey_21 => ?_)
        refine va_mmax hx hb (hml.trans hl.1.symm) hown (hT _ w952) (hT _ w953) (hT _ w15) (hT _ w954) (Nat.le_of_ble_eq_true rfl) (Nat.le_of_ble_eq_true rfl) (Nat.le_of_ble_eq_true rfl) (Nat.le_of_ble_eq_true rfl) dX8_find_29 ?_
        refine lv_topi (fun z_22 ez_22 => ?_)
        refine lv_istore_n (lv' := [(2, .int z_22), (3, .int (nI i)), (0, .ref o), (1, .ref w)]) hx hb dX8_find_32 rfl hl (by decide) rfl (fun ls hl => ?_)
        refine lv_iinc (v := nI (i + 1)) (lv' := [(3, .int (nI (i + 1))), (2, .int z_22), (0, .ref o), (1, .ref w)]) hx hb dX8_find_33 hl (k := 1) rfl (nI_add (i) 1) (by decide) rfl (fun ls hl => ?_)
        refine lv_goto (tgt := 14) hx hb dX8_find_36 (by decide) ?_
        exact ih14 (i + 1) z_22 _ _ _ ls (by omega) (by omega) hTy hFr hFl14 hW (lv_sub hl [0, 1, 2, 3] rfl)
  exact loop ((9 - 0) + 1) 0 0 _ _ _ ls (Nat.lt_succ_self _) (by omega) hTy hFr Fr.rf hW (lv_sub hl [0, 1, 2, 3] rfl)
