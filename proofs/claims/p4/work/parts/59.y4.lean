set_option maxHeartbeats 4000000 in
set_option maxRecDepth 100000 in
theorem q_takeOver (l : Launch) (dC : Nat → ClassId) (dI : Nat → Nat → Nat) (cy : Nat → ClassId) (L : List Nat) (kap : Nat → Nat) (pr : Pr) (S : Nat → va_E) (sz : Nat) (o : Nat) (hTy : Ty cy L kap pr S) (hT_o : TK L kap o 11) : Met l yX11_takeOver (wT yX11_takeOver cX11_takeOver 3 none) ({ frames := 0, cells := 0, slots := 0, locals := 0 }) (pcN dC dI [.ref o] sz (va_pl L S) (cyT cy) NLs []) (va_Qv (fun S' => Ty cy L kap pr S' ∧ Fr kap [6, 11] S S' ∧ (rf (S' o) 11 = rf (S (rf (S o) 1)) 3 ∧ rf (S' o) 1 = (rf (S o) 1) ∧ inf (S' (rf (S o) 1)) 0 = inf (S (rf (S o) 1)) 0 ∧ inf (S' (rf (S o) 1)) 1 = inf (S (rf (S o) 1)) 1)) (fun S' t => pB dC dI (AL L sz) (va_pl L S') (cyT cy) t) (AL L sz)) 0 0 (AL L sz) := by
  refine Met.ofW (cc := cX11_takeOver) (maxL := 3) (ret := none) (by decide) rfl ?_
  intro p e s m args below meth c s₁ B hml hv
  obtain ⟨rfl, hsz, hP, hK, hD0, hN, -⟩ := hv
  have hx := B.exec
  have hb := B.bytes
  have hr := B.returns
  have hT : ∀ wd ∈ TB, wd.before [.ref o].toArray s = true := fun wd h => atoms_spec (ws := wT yX11_takeOver cX11_takeOver 3 none) B.pre wd (List.mem_cons_of_mem _ h)
  have hown : s.vm.findClass RX11 = some m.cls := findClass_of_methodNamed B.named
  have hlocks := B.notSynchronized
  subst hsz
  have hW : PW dC dI L (AL L s.heap.size) s.heap S s.heap [] := ⟨hP, pl_self hD0, va_S.rf⟩
  have hA0 : ∀ q, q ∈ L → AL L s.heap.size q := fun _ h => Or.inl h
  have hA : ∀ q, s.heap.size ≤ q → AL L s.heap.size q := fun _ h => Or.inr h
  have hFr : Fr kap [6, 11] S S := Fr.rf
  have hl := lv_entry ([.ref o]) (n := 3) (Nat.le_of_ble_eq_true rfl)
  rw [lg_entry_eq]
  generalize (lg_sl ([.ref o]) ++ List.replicate (3 - (lg_sl ([.ref o])).length) Slot.unset).toArray = ls at hl ⊢
  have hl : lv_has ls 3 [(0, .ref o)] := hl
  obtain ⟨x_1, x_2, x_3, x_4, x_5, x_6, x_7, x_8, x_9, x_10, x_11, x_12, x_13, hS_o, hT_x_1, hT_x_2, hT_x_3, hT_x_4, hT_x_5, hT_x_6, hT_x_7, hT_x_8, hT_x_9, hT_x_10, hT_x_11, hT_x_12⟩ := hTy.k11 hT_o
  obtain ⟨x_14, x_15, x_16, x_17, x_18, x_19, x_20, x_21, x_22, x_23, hS_x_2, hT_x_16, hT_x_17, hT_x_18, hb_x_19, hb_x_22, hb_x_23⟩ := hTy.k6 hT_x_2
  have k0_ : rf (S o) 1 = x_2 := rf_i hS_o rfl
  have k1_ : rf (S x_2) 3 = x_17 := rf_i hS_x_2 rfl
  have k2_ : inf (S x_2) 0 = x_14 := inf_i hS_x_2 rfl
  have k3_ : inf (S x_2) 1 = x_15 := inf_i hS_x_2 rfl
  refine lv_aload_n hx hb dX11_takeOver_0 rfl (lv_at hl 0 rfl) ?_
  refine pl_get (ci := 11) (v := .ref x_11) (C := RX11) (T := TX11) (N := 13) hx hb hT iX11 hown hK hW hT_o.1 hS_o rfl 10 (by decide) w363 rfl dX11_takeOver_1 ?_
  refine lv_astore_n (lv' := [(1, .ref x_11), (0, .ref o)]) hx hb dX11_takeOver_4 rfl hl (by decide) rfl (fun ls hl => ?_)
  refine lv_aload_n hx hb dX11_takeOver_5 rfl (lv_at hl 1 rfl) ?_
  refine lv_aload_n hx hb dX11_takeOver_6 rfl (lv_at hl 1 rfl) ?_
  refine pl_get (ci := 11) (v := .ref x_2) (C := RX11) (T := TX11) (N := 13) hx hb hT iX11 hown hK hW hT_o.1 hS_o rfl 1 (by decide) w354 rfl dX11_takeOver_7 ?_
  refine pl_get (ci := 6) (v := .ref x_16) (C := RX6) (T := TX6) (N := 10) hx hb hT iX6 hown hK hW hT_x_2.1 hS_x_2 rfl 2 (by decide) w144 rfl dX11_takeOver_10 ?_
  refine pl_put (ci := 11) (v := .ref x_16) (ty := .object "SwapPress$Names") (C := RX11) (T := TX11) (N := 13) (fs' := [.ref x_1, .ref x_2, .ref x_3, .ref x_4, .ref x_5, .ref x_6, .ref x_7, .ref x_8, .ref x_9, .ref x_10, .ref x_16, .ref x_12, .int x_13]) hx hb hT iX11 tyX11 tyX11_ok nmX11 hown hK hW hT_o.1 hS_o rfl 10 (by decide) w363 rfl (by decide +kernel) rfl rfl (Nat.le_of_ble_eq_true rfl) rfl dX11_takeOver_13 (fun H locs S_24 e1 hW => ?_)
  have hTy := hTy.u11 e1 hT_o ⟨x_1, x_2, x_3, x_4, x_5, x_6, x_7, x_8, x_9, x_10, x_16, x_12, x_13, rfl, hT_x_1, hT_x_2, hT_x_3, hT_x_4, hT_x_5, hT_x_6, hT_x_7, hT_x_8, hT_x_9, hT_x_10, hT_x_16, hT_x_12⟩
  have hS_x_2 := un e1 hT_x_2 hT_o (by decide) hS_x_2
  have hFr := uf hFr e1 hT_o (by decide) (by decide)
  have hS_o := us e1
  refine lv_aload_n hx hb dX11_takeOver_16 rfl (lv_at hl 1 rfl) ?_
  refine pl_get (ci := 11) (v := .ref x_2) (C := RX11) (T := TX11) (N := 13) hx hb hT iX11 hown hK hW hT_o.1 hS_o rfl 1 (by decide) w354 rfl dX11_takeOver_17 ?_
  refine lv_aload_n hx hb dX11_takeOver_20 rfl (lv_at hl 0 rfl) ?_
  refine pl_put (ci := 6) (v := .ref x_11) (ty := .object "SwapPress$Names") (C := RX6) (T := TX6) (N := 10) (fs' := [.int x_14, .int x_15, .ref x_11, .ref x_17, .ref x_18, .int (nI x_19), .int x_20, .int x_21, .int (nI x_22), .int (nI x_23)]) hx hb hT iX6 tyX6 tyX6_ok nmX6 hown hK hW hT_x_2.1 hS_x_2 rfl 2 (by decide) w144 rfl (by decide +kernel) rfl rfl (Nat.le_of_ble_eq_true rfl) rfl dX11_takeOver_21 (fun H locs S_25 e1 hW => ?_)
  have hTy := hTy.u6 e1 hT_x_2 ⟨x_14, x_15, x_11, x_17, x_18, x_19, x_20, x_21, x_22, x_23, rfl, hT_x_11, hT_x_17, hT_x_18, (by omega), (by omega), (by omega)⟩
  have hS_o := un e1 hT_o hT_x_2 (by decide) hS_o
  have hFr := uf hFr e1 hT_x_2 (by decide) (by decide)
  have hS_x_2 := us e1
  refine lv_aload_n hx hb dX11_takeOver_24 rfl (lv_at hl 1 rfl) ?_
  refine pl_get (ci := 11) (v := .ref x_12) (C := RX11) (T := TX11) (N := 13) hx hb hT iX11 hown hK hW hT_o.1 hS_o rfl 11 (by decide) w364 rfl dX11_takeOver_25 ?_
  refine lv_astore_n (lv' := [(2, .ref x_12), (1, .ref x_11), (0, .ref o)]) hx hb dX11_takeOver_28 rfl hl (by decide) rfl (fun ls hl => ?_)
  refine lv_aload_n hx hb dX11_takeOver_29 rfl (lv_at hl 2 rfl) ?_
  refine lv_aload_n hx hb dX11_takeOver_30 rfl (lv_at hl 2 rfl) ?_
  refine pl_get (ci := 11) (v := .ref x_2) (C := RX11) (T := TX11) (N := 13) hx hb hT iX11 hown hK hW hT_o.1 hS_o rfl 1 (by decide) w354 rfl dX11_takeOver_31 ?_
  refine pl_get (ci := 6) (v := .ref x_17) (C := RX6) (T := TX6) (N := 10) hx hb hT iX6 hown hK hW hT_x_2.1 hS_x_2 rfl 3 (by decide) w146 rfl dX11_takeOver_34 ?_
  refine pl_put (ci := 11) (v := .ref x_17) (ty := .object "SwapPress$Book") (C := RX11) (T := TX11) (N := 13) (fs' := [.ref x_1, .ref x_2, .ref x_3, .ref x_4, .ref x_5, .ref x_6, .ref x_7, .ref x_8, .ref x_9, .ref x_10, .ref x_16, .ref x_17, .int x_13]) hx hb hT iX11 tyX11 tyX11_ok nmX11 hown hK hW hT_o.1 hS_o rfl 11 (by decide) w364 rfl (by decide +kernel) rfl rfl (Nat.le_of_ble_eq_true rfl) rfl dX11_takeOver_37 (fun H locs S_26 e1 hW => ?_)
  have hTy := hTy.u11 e1 hT_o ⟨x_1, x_2, x_3, x_4, x_5, x_6, x_7, x_8, x_9, x_10, x_16, x_17, x_13, rfl, hT_x_1, hT_x_2, hT_x_3, hT_x_4, hT_x_5, hT_x_6, hT_x_7, hT_x_8, hT_x_9, hT_x_10, hT_x_16, hT_x_17⟩
  have hS_x_2 := un e1 hT_x_2 hT_o (by decide) hS_x_2
  have hFr := uf hFr e1 hT_o (by decide) (by decide)
  have hS_o := us e1
  refine lv_aload_n hx hb dX11_takeOver_40 rfl (lv_at hl 2 rfl) ?_
  refine pl_get (ci := 11) (v := .ref x_2) (C := RX11) (T := TX11) (N := 13) hx hb hT iX11 hown hK hW hT_o.1 hS_o rfl 1 (by decide) w354 rfl dX11_takeOver_41 ?_
  refine lv_aload_n hx hb dX11_takeOver_44 rfl (lv_at hl 0 rfl) ?_
  refine pl_put (ci := 6) (v := .ref x_12) (ty := .object "SwapPress$Book") (C := RX6) (T := TX6) (N := 10) (fs' := [.int x_14, .int x_15, .ref x_11, .ref x_12, .ref x_18, .int (nI x_19), .int x_20, .int x_21, .int (nI x_22), .int (nI x_23)]) hx hb hT iX6 tyX6 tyX6_ok nmX6 hown hK hW hT_x_2.1 hS_x_2 rfl 3 (by decide) w146 rfl (by decide +kernel) rfl rfl (Nat.le_of_ble_eq_true rfl) rfl dX11_takeOver_45 (fun H locs S_27 e1 hW => ?_)
  have hTy := hTy.u6 e1 hT_x_2 ⟨x_14, x_15, x_11, x_12, x_18, x_19, x_20, x_21, x_22, x_23, rfl, hT_x_11, hT_x_12, hT_x_18, (by omega), (by omega), (by omega)⟩
  have hS_o := un e1 hT_o hT_x_2 (by decide) hS_o
  have hFr := uf hFr e1 hT_x_2 (by decide) (by decide)
  have hS_x_2 := us e1
  exact W.vret hx hb hr (fun t ht h9 => ⟨⟨S_27, rfl, ⟨hTy, hFr, (by rw [k0_, k1_, k2_, k3_]; exact ⟨rf_i hS_o rfl, rf_i hS_o rfl, inf_i hS_x_2 rfl, inf_i hS_x_2 rfl⟩)⟩, by rw [ht]; exact hW.1, va_K.moved h9.alike hK, hW.2.1⟩, hW.2.2.F ht⟩) hW.2.2.2.2 dX11_takeOver_48

set_option maxHeartbeats 4000000 in
set_option maxRecDepth 100000 in
theorem q_tell (l : Launch) (dC : Nat → ClassId) (dI : Nat → Nat → Nat) (cy : Nat → ClassId) (L : List Nat) (kap : Nat → Nat) (pr : Pr) (ad : (Nat → Nat) × (Nat → Nat)) (S : Nat → va_E) (sz : Nat) (o : Nat) (tn : Int32) (hTy : Ty cy L kap pr S) (hT_o : TK L kap o 11) (hu6 : ∀ b9 c9, TK L kap b9 6 → TK L kap c9 6 → b9 = c9) (hu10 : ∀ b9 c9, TK L kap b9 10 → TK L kap c9 10 → b9 = c9) (g : Nat → Int32) (hgE : KG L kap S 27 g) (hg : BR g) (fw : Int32) (fp : Int32) (hwE : KW6 L kap S fw fp) : Met l yX11_tell (wT yX11_tell cX11_tell 2 (some .int)) ({ frames := 10, cells := 0, slots := 0, locals := 213 }) (pcS dC dI [.ref o, .int tn] sz L S (cyT cy) NLs ad) (va_Qi (fun r S' => Ty cy L kap (tl tn pr.1, pr.2) S' ∧ Fr kap [0, 3, 5, 6, 10, 11, 20, 21, 22, 23, 24, 25, 26] S S' ∧ (∃ fw' fp', TLX g pr.1 tn fw fp fw' fp' r ∧ KW6 L kap S' fw' fp')) (fun S' t => pB dC dI (AL L sz) (va_pl L S') (cyT cy) t) (AL L sz)) 0 0 (AL L sz) := by
  refine Met.ofW (cc := cX11_tell) (maxL := 2) (ret := (some .int)) (by decide) rfl ?_
  intro p e s m args below meth c s₁ B hml hv
  obtain ⟨rfl, hsz, hP, hK, hD0, hN, hSTR⟩ := hv
  have hx := B.exec
  have hb := B.bytes
  have hr := B.returns
  have hT : ∀ wd ∈ TB, wd.before [.ref o, .int tn].toArray s = true := fun wd h => atoms_spec (ws := wT yX11_tell cX11_tell 2 (some .int)) B.pre wd (List.mem_cons_of_mem _ h)
  have hown : s.vm.findClass RX11 = some m.cls := findClass_of_methodNamed B.named
  have hlocks := B.notSynchronized
  subst hsz
  have hW : PW dC dI L (AL L s.heap.size) s.heap S s.heap [] := ⟨hP, pl_self hD0, va_S.rf⟩
  have hA0 : ∀ q, q ∈ L → AL L s.heap.size q := fun _ h => Or.inl h
  have hA : ∀ q, s.heap.size ≤ q → AL L s.heap.size q := fun _ h => Or.inr h
  have hFr : Fr kap [0, 3, 5, 6, 10, 11, 20, 21, 22, 23, 24, 25, 26] S S := Fr.rf
  have hl := lv_entry ([.ref o, .int tn]) (n := 2) (Nat.le_of_ble_eq_true rfl)
  rw [lg_entry_eq]
  generalize (lg_sl ([.ref o, .int tn]) ++ List.replicate (2 - (lg_sl ([.ref o, .int tn])).length) Slot.unset).toArray = ls at hl ⊢
  have hl : lv_has ls 2 [(0, .ref o), (1, .int tn)] := hl
  obtain ⟨x_1, x_2, x_3, x_4, x_5, x_6, x_7, x_8, x_9, x_10, x_11, x_12, x_13, hS_o, hT_x_1, hT_x_2, hT_x_3, hT_x_4, hT_x_5, hT_x_6, hT_x_7, hT_x_8, hT_x_9, hT_x_10, hT_x_11, hT_x_12⟩ := hTy.k11 hT_o
  obtain ⟨x_14, x_15, x_16, x_17, x_18, x_19, x_20, x_21, x_22, x_23, hS_x_2, hT_x_16, hT_x_17, hT_x_18, hb_x_19, hb_x_22, hb_x_23⟩ := hTy.k6 hT_x_2
  obtain ⟨f_24, hS_x_18⟩ := hTy.k27 hT_x_18
  have eg_ := (hgE x_18 hT_x_18).symm.trans (af_i hS_x_18)
  subst eg_
  refine lv_iload_n hx hb dX11_tell_0 rfl (lv_at hl 1 rfl) ?_
  refine lv_if_lt (tgt := 15) hx hb dX11_tell_1 (by decide) (fun c_1 => ?_) (fun c_1 => ?_)
  · skip
    refine lv_bipush (v := (-3)) hx hb dX11_tell_15 (by decide) ?_
    have hTy : Ty cy L kap (tl tn pr.1, pr.2) S := (by rw [tl_1 c_1]; exact hTy)
    exact W.iret (v := (-3)) hx hb hr (fun t ht h9 => ⟨⟨(-3), S, rfl, ⟨hTy, hFr, ⟨fw, fp, Or.inl ⟨Or.inl c_1, rfl, rfl, rfl⟩, hwE⟩⟩, by rw [ht]; exact hW.1, va_K.moved h9.alike hK, hW.2.1⟩, hW.2.2.F ht⟩) hW.2.2.2.2 dX11_tell_17
  · obtain ⟨j_25, hj_j_25, rfl⟩ := nI_of c_1
    refine lv_iload_n hx hb dX11_tell_4 rfl (lv_at hl 1 rfl) ?_
    refine lv_aload_n hx hb dX11_tell_5 rfl (lv_at hl 0 rfl) ?_
    refine pl_get (ci := 11) (v := .ref x_1) (C := RX11) (T := TX11) (N := 13) hx hb hT iX11 hown hK hW hT_o.1 hS_o rfl 0 (by decide) w353 rfl dX11_tell_6 ?_
    obtain ⟨x_26, hS_x_1, hT_x_26, hb_q1⟩ := hTy.k10 hT_x_1
    have hb_q1 : pr.1 ≤ 900 := hb_q1
    have hS_x_1 : S x_1 = .inr (10, [.ref x_26, .int (nI (pr.1))]) := hS_x_1
    refine pl_get (ci := 10) (v := .int (nI (pr.1))) (C := RX10) (T := TX10) (N := 2) hx hb hT iX10 hown hK hW hT_x_1.1 hS_x_1 rfl 1 (by decide) w38 rfl dX11_tell_9 ?_
    refine lv_icmp_le (tgt := 18) hx hb dX11_tell_12 (by decide) (fun c_12 => ?_) (fun c_12 => ?_)
    · have c_12 : j_25 ≤ pr.1 := (nI_leI (a := j_25) (b := pr.1) (by omega) (by omega)).mp c_12
      refine lv_aload_n hx hb dX11_tell_18 rfl (lv_at hl 0 rfl) ?_
      refine pl_get (ci := 11) (v := .ref x_1) (C := RX11) (T := TX11) (N := 13) hx hb hT iX11 hown hK hW hT_o.1 hS_o rfl 0 (by decide) w353 rfl dX11_tell_19 ?_
      refine lv_iconst (v := 0) hx hb dX11_tell_22 (by decide) ?_
      refine pl_put (ci := 10) (v := .int 0) (ty := .int) (C := RX10) (T := TX10) (N := 2) (fs' := [.ref x_26, .int 0]) hx hb hT iX10 tyX10 tyX10_ok nmX10 hown hK hW hT_x_1.1 hS_x_1 rfl 1 (by decide) w38 rfl (by decide +kernel) rfl rfl (Nat.le_of_ble_eq_true rfl) rfl dX11_tell_23 (fun H locs S_27 e1 hW => ?_)
      have hTy : Ty cy L kap (0, pr.2) S_27 := hTy.p1 (n := 0) e1 hT_x_1 (fun b9 hb9 => hu10 b9 x_1 hb9 hT_x_1) ⟨x_26, rfl, hT_x_26, (by show 0 ≤ 900; omega)⟩
      have hS_o := un e1 hT_o hT_x_1 (by decide) hS_o
      have hS_x_2 := un e1 hT_x_2 hT_x_1 (by decide) hS_x_2
      have hS_x_18 := un e1 hT_x_18 hT_x_1 (by decide) hS_x_18
      have hFr := uf hFr e1 hT_x_1 (by decide) (by decide)
      have hS_x_1 := us e1
      refine lv_aload_n hx hb dX11_tell_26 rfl (lv_at hl 0 rfl) ?_
      refine pl_get (ci := 11) (v := .ref x_2) (C := RX11) (T := TX11) (N := 13) hx hb hT iX11 hown hK hW hT_o.1 hS_o rfl 1 (by decide) w354 rfl dX11_tell_27 ?_
      refine lv_iload_n hx hb dX11_tell_30 rfl (lv_at hl 1 rfl) ?_
      refine pl_callv (va_runV (As := [.int (nI j_25)]) (rest := []) ⟨hx, hb, hml, hown, hT⟩ (q_read l dC dI cy L kap (0, pr.2) ad S_27 H.size x_2 j_25 hTy hT_x_2 (by omega) g x_14 x_15 x_16 x_17 x_18 x_19 x_20 x_21 x_22 x_23 ⟨hS_x_2, af_i hS_x_18, by omega, by omega, by omega⟩ hg) (cwV 1 hT (gV w405 w406 w407 w3 w408) rfl rfl rfl (by decide +kernel) ⟨(Nat.le_of_ble_eq_true rfl), (Nat.le_of_ble_eq_true rfl)⟩) ⟨pcS.blind, pl_recv hK hW hT_x_2.1 hS_x_2 rfl, pcS.pre hW.1 hK hW.2.1 hN hSTR hW.2.2⟩ rfl rfl hl.1 rfl (lv_room (Nat.le_of_ble_eq_true rfl)) dX11_tell_31 ⟨(Nat.le_of_ble_eq_true rfl), (Nat.le_of_ble_eq_true rfl)⟩) hW hA0 hA (fun S_28 H locs hrel hW => ?_)
      obtain ⟨hTy, hF1, hx1⟩ := hrel
      have hFr := hFr.tr hF1 (by decide)
      have hS_o := hF1.at hT_o (by decide) hS_o
      have hS_x_18 := hF1.at hT_x_18 (by decide) hS_x_18
      have hS_x_1 := hF1.at hT_x_1 (by decide) hS_x_1
      obtain ⟨fa1, pl1, mt1, tk1, ta1, te1, hQ1, hD1⟩ := hx1
      obtain ⟨hS_x_2, hT_x_16, hT_x_17, hT_x_18, hQg_, hen_, hta_, hte_⟩ := RQk hTy hT_x_2 hQ1
      obtain ⟨f_29, hS_x_18⟩ := hTy.k27 hT_x_18
      have eg_ := hQg_.symm.trans (af_i hS_x_18)
      subst eg_
      obtain ⟨x_30, x_31, x_32, x_33, x_34, x_35, x_36, x_37, hS_x_17, hT_x_30, hT_x_31, hT_x_32, hT_x_33, hT_x_34, hT_x_35, hb_x_36⟩ := hTy.k0 hT_x_17
      have hsz_ : (TX g j_25).1 = 0 → nI x_36 = nI (TX g j_25).2.2 := fun z => (inf_i hS_x_17 rfl).symm.trans (hD1.2.1 z).2
      refine lv_aload_n hx hb dX11_tell_34 rfl (lv_at hl 0 rfl) ?_
      refine pl_get (ci := 11) (v := .ref x_2) (C := RX11) (T := TX11) (N := 13) hx hb hT iX11 hown hK hW hT_o.1 hS_o rfl 1 (by decide) w354 rfl dX11_tell_35 ?_
      refine pl_get (ci := 6) (v := .int fa1) (C := RX6) (T := TX6) (N := 10) hx hb hT iX6 hown hK hW hT_x_2.1 hS_x_2 rfl 0 (by decide) w140 rfl dX11_tell_38 ?_
      refine lv_if_eq (tgt := 55) hx hb dX11_tell_41 (by decide) (fun c_41 => ?_) (fun c_41 => ?_)
      · refine lv_aload_n hx hb dX11_tell_55 rfl (lv_at hl 0 rfl) ?_
        have hO0_ := hS_o
        have hR0_ := hS_x_2
        refine pl_callv (va_runV (As := []) (rest := []) ⟨hx, hb, hml, hown, hT⟩ (q_takeOver l dC dI cy L kap (0, pr.2) S_28 H.size o hTy hT_o) (cwV 0 hT (gV w586 w588 ws21 w1 w589) rfl rfl rfl (by decide +kernel) ⟨(Nat.le_of_ble_eq_true rfl), (Nat.le_of_ble_eq_true rfl)⟩) ⟨pcN.blind, pl_recv hK hW hT_o.1 hS_o rfl, pcN.pre hW.1 hK hW.2.1 hN (fun q h => absurd h List.not_mem_nil)⟩ rfl rfl hl.1 rfl (lv_room (Nat.le_of_ble_eq_true rfl)) dX11_tell_56 ⟨(Nat.le_of_ble_eq_true rfl), (Nat.le_of_ble_eq_true rfl)⟩) hW hA0 hA (fun S_38 H locs hrel hW => ?_)
        obtain ⟨hTy, hF1, hx1⟩ := hrel
        have hFr := hFr.tr hF1 (by decide)
        have hS_x_1 := hF1.at hT_x_1 (by decide) hS_x_1
        have hS_x_18 := hF1.at hT_x_18 (by decide) hS_x_18
        have hS_x_17 := hF1.at hT_x_17 (by decide) hS_x_17
        obtain ⟨t1_, t2_, t3_, t4_⟩ := hx1
        rw [rf_i hO0_ rfl] at t1_ t2_ t3_ t4_
        rw [rf_i hR0_ rfl] at t1_
        rw [inf_i hR0_ rfl] at t3_ t4_
        obtain ⟨x_39, x_40, x_41, x_42, x_43, x_44, x_45, x_46, x_47, x_48, x_49, x_50, x_51, hS_o, hT_x_39, hT_x_40, hT_x_41, hT_x_42, hT_x_43, hT_x_44, hT_x_45, hT_x_46, hT_x_47, hT_x_48, hT_x_49, hT_x_50⟩ := hTy.k11 hT_o
        obtain rfl : x_17 = x_50 := t1_.symm.trans (rf_i hS_o rfl)
        obtain rfl : x_2 = x_40 := t2_.symm.trans (rf_i hS_o rfl)
        obtain ⟨x_52, x_53, x_54, x_55, x_56, x_57, x_58, x_59, x_60, x_61, hS_x_2, hT_x_54, hT_x_55, hT_x_56, hb_x_57, hb_x_60, hb_x_61⟩ := hTy.k6 hT_x_2
        have hra_ : x_52 = fa1 := (inf_i hS_x_2 rfl).symm.trans t3_
        have hrb_ : x_53 = pl1 := (inf_i hS_x_2 rfl).symm.trans t4_
        refine lv_aload_n hx hb dX11_tell_59 rfl (lv_at hl 0 rfl) ?_
        refine pl_get (ci := 11) (v := .ref x_41) (C := RX11) (T := TX11) (N := 13) hx hb hT iX11 hown hK hW hT_o.1 hS_o rfl 2 (by decide) w355 rfl dX11_tell_60 ?_
        refine lv_iconst (v := 0) hx hb dX11_tell_63 (by decide) ?_
        obtain ⟨x_62, x_63, hS_x_41, hT_x_62, hb_x_63⟩ := hTy.k5 hT_x_41
        refine pl_put (ci := 5) (v := .int 0) (ty := .int) (C := RX5) (T := TX5) (N := 2) (fs' := [.ref x_62, .int 0]) hx hb hT iX5 tyX5 tyX5_ok nmX5 hown hK hW hT_x_41.1 hS_x_41 rfl 1 (by decide) w185 rfl (by decide +kernel) rfl rfl (Nat.le_of_ble_eq_true rfl) rfl dX11_tell_64 (fun H locs S_64 e1 hW => ?_)
        have hTy := hTy.u5 e1 hT_x_41 ⟨x_62, 0, rfl, hT_x_62, (by omega)⟩
        have hS_x_1 := un e1 hT_x_1 hT_x_41 (by decide) hS_x_1
        have hS_x_18 := un e1 hT_x_18 hT_x_41 (by decide) hS_x_18
        have hS_x_17 := un e1 hT_x_17 hT_x_41 (by decide) hS_x_17
        have hS_o := un e1 hT_o hT_x_41 (by decide) hS_o
        have hS_x_2 := un e1 hT_x_2 hT_x_41 (by decide) hS_x_2
        have hFr := uf hFr e1 hT_x_41 (by decide) (by decide)
        have hS_x_41 := us e1
        refine lv_aload_n hx hb dX11_tell_67 rfl (lv_at hl 0 rfl) ?_
        refine lv_iconst (v := (-1)) hx hb dX11_tell_68 (by decide) ?_
        refine pl_put (ci := 11) (v := .int (-1)) (ty := .int) (C := RX11) (T := TX11) (N := 13) (fs' := [.ref x_39, .ref x_2, .ref x_41, .ref x_42, .ref x_43, .ref x_44, .ref x_45, .ref x_46, .ref x_47, .ref x_48, .ref x_49, .ref x_17, .int (-1)]) hx hb hT iX11 tyX11 tyX11_ok nmX11 hown hK hW hT_o.1 hS_o rfl 12 (by decide) w365 rfl (by decide +kernel) rfl rfl (Nat.le_of_ble_eq_true rfl) rfl dX11_tell_69 (fun H locs S_65 e1 hW => ?_)
        have hTy := hTy.u11 e1 hT_o ⟨x_39, x_2, x_41, x_42, x_43, x_44, x_45, x_46, x_47, x_48, x_49, x_17, (-1), rfl, hT_x_39, hT_x_2, hT_x_41, hT_x_42, hT_x_43, hT_x_44, hT_x_45, hT_x_46, hT_x_47, hT_x_48, hT_x_49, hT_x_17⟩
        have hS_x_1 := un e1 hT_x_1 hT_o (by decide) hS_x_1
        have hS_x_18 := un e1 hT_x_18 hT_o (by decide) hS_x_18
        have hS_x_17 := un e1 hT_x_17 hT_o (by decide) hS_x_17
        have hS_x_2 := un e1 hT_x_2 hT_o (by decide) hS_x_2
        have hS_x_41 := un e1 hT_x_41 hT_o (by decide) hS_x_41
        have hFr := uf hFr e1 hT_o (by decide) (by decide)
        have hS_o := us e1
        refine lv_aload_n hx hb dX11_tell_72 rfl (lv_at hl 0 rfl) ?_
        refine pl_get (ci := 11) (v := .ref x_17) (C := RX11) (T := TX11) (N := 13) hx hb hT iX11 hown hK hW hT_o.1 hS_o rfl 11 (by decide) w364 rfl dX11_tell_73 ?_
        refine pl_get (ci := 0) (v := .int (nI x_36)) (C := RX0) (T := TX0) (N := 8) hx hb hT iX0 hown hK hW hT_x_17.1 hS_x_17 rfl 6 (by decide) w114 rfl dX11_tell_76 ?_
        have hnz_ : (TX g j_25).1 = 0 := by by_cases z : (TX g j_25).1 = 0; exact z; exact absurd c_41 (hD1.2.2 z).1
        have hTy : Ty cy L kap (tl (nI j_25) pr.1, pr.2) S_65 := (by rw [tl_3 c_12 (by omega)]; exact hTy)
        exact W.iret (v := nI x_36) hx hb hr (fun t ht h9 => ⟨⟨nI x_36, S_65, rfl, ⟨hTy, hFr, ⟨fa1, pl1, Or.inr ⟨j_25, rfl, by omega, hD1.1, Or.inl ⟨hnz_, (hD1.2.1 hnz_).1, hsz_ hnz_⟩⟩, fun b9 hb9 => by rw [hu6 b9 x_2 hb9 hT_x_2]; exact ⟨(inf_i hS_x_2 rfl).trans hra_, (inf_i hS_x_2 rfl).trans hrb_⟩⟩⟩, by rw [ht]; exact hW.1, va_K.moved h9.alike hK, hW.2.1⟩, hW.2.2.F ht⟩) hW.2.2.2.2 dX11_tell_79
      · refine lv_bipush (v := (-30)) hx hb dX11_tell_44 (by decide) ?_
        refine lv_aload_n hx hb dX11_tell_46 rfl (lv_at hl 0 rfl) ?_
        refine pl_get (ci := 11) (v := .ref x_2) (C := RX11) (T := TX11) (N := 13) hx hb hT iX11 hown hK hW hT_o.1 hS_o rfl 1 (by decide) w354 rfl dX11_tell_47 ?_
        refine pl_get (ci := 6) (v := .int fa1) (C := RX6) (T := TX6) (N := 10) hx hb hT iX6 hown hK hW hT_x_2.1 hS_x_2 rfl 0 (by decide) w140 rfl dX11_tell_50 ?_
        refine lv_isub hx hb dX11_tell_53 ?_
        refine lv_topi (fun z_66 ez_66 => ?_)
        have hnz_ : (TX g j_25).1 ≠ 0 := fun z => c_41 (by rw [hD1.1, z]; rfl)
        have hTy : Ty cy L kap (tl (nI j_25) pr.1, pr.2) S_28 := (by rw [tl_3 c_12 (by omega)]; exact hTy)
        exact W.iret (v := z_66) hx hb hr (fun t ht h9 => ⟨⟨z_66, S_28, rfl, ⟨hTy, hFr, ⟨fa1, pl1, Or.inr ⟨j_25, rfl, by omega, hD1.1, Or.inr ⟨hnz_, (hD1.2.2 hnz_).2, by rw [ez_66, hD1.1]⟩⟩, fun b9 hb9 => by rw [hu6 b9 x_2 hb9 hT_x_2]; exact ⟨inf_i hS_x_2 rfl, inf_i hS_x_2 rfl⟩⟩⟩, by rw [ht]; exact hW.1, va_K.moved h9.alike hK, hW.2.1⟩, hW.2.2.F ht⟩) hW.2.2.2.2 dX11_tell_54
    · have c_12 : ¬ (j_25 ≤ pr.1) := fun hh9 => c_12 ((nI_leI (a := j_25) (b := pr.1) (by omega) (by omega)).mpr hh9)
      refine lv_bipush (v := (-3)) hx hb dX11_tell_15 (by decide) ?_
      have hTy : Ty cy L kap (tl (nI j_25) pr.1, pr.2) S := (by rw [tl_2 hj_j_25 c_12 (by omega)]; exact hTy)
      exact W.iret (v := (-3)) hx hb hr (fun t ht h9 => ⟨⟨(-3), S, rfl, ⟨hTy, hFr, ⟨fw, fp, Or.inl ⟨Or.inr ((nI_ltI (by omega) hj_j_25).mpr (by omega)), rfl, rfl, rfl⟩, hwE⟩⟩, by rw [ht]; exact hW.1, va_K.moved h9.alike hK, hW.2.1⟩, hW.2.2.F ht⟩) hW.2.2.2.2 dX11_tell_17

set_option maxHeartbeats 4000000 in
set_option maxRecDepth 100000 in
theorem q_fault (l : Launch) (dC : Nat → ClassId) (dI : Nat → Nat → Nat) (cy : Nat → ClassId) (L : List Nat) (kap : Nat → Nat) (pr : Pr) (S : Nat → va_E) (sz : Nat) (o : Nat) (wh : Int32) (hTy : Ty cy L kap pr S) (hT_o : TK L kap o 11) (fw : Int32) (fp : Int32) (hwE : KW6 L kap S fw fp) : Met l yX11_fault (wT yX11_fault cX11_fault 2 (some .int)) ({ frames := 0, cells := 0, slots := 0, locals := 0 }) (pcN dC dI [.ref o, .int wh] sz (va_pl L S) (cyT cy) NLs []) (va_Qi (fun r S' => Ty cy L kap pr S' ∧ Fr kap [] S S' ∧ (r = FLT wh fw fp)) (fun S' t => pB dC dI (AL L sz) (va_pl L S') (cyT cy) t) (AL L sz)) 0 0 (AL L sz) := by
  refine Met.ofW (cc := cX11_fault) (maxL := 2) (ret := (some .int)) (by decide) rfl ?_
  intro p e s m args below meth c s₁ B hml hv
  obtain ⟨rfl, hsz, hP, hK, hD0, hN, -⟩ := hv
  have hx := B.exec
  have hb := B.bytes
  have hr := B.returns
  have hT : ∀ wd ∈ TB, wd.before [.ref o, .int wh].toArray s = true := fun wd h => atoms_spec (ws := wT yX11_fault cX11_fault 2 (some .int)) B.pre wd (List.mem_cons_of_mem _ h)
  have hown : s.vm.findClass RX11 = some m.cls := findClass_of_methodNamed B.named
  have hlocks := B.notSynchronized
  subst hsz
  have hW : PW dC dI L (AL L s.heap.size) s.heap S s.heap [] := ⟨hP, pl_self hD0, va_S.rf⟩
  have hA0 : ∀ q, q ∈ L → AL L s.heap.size q := fun _ h => Or.inl h
  have hA : ∀ q, s.heap.size ≤ q → AL L s.heap.size q := fun _ h => Or.inr h
  have hFr : Fr kap [] S S := Fr.rf
  have hl := lv_entry ([.ref o, .int wh]) (n := 2) (Nat.le_of_ble_eq_true rfl)
  rw [lg_entry_eq]
  generalize (lg_sl ([.ref o, .int wh]) ++ List.replicate (2 - (lg_sl ([.ref o, .int wh])).length) Slot.unset).toArray = ls at hl ⊢
  have hl : lv_has ls 2 [(0, .ref o), (1, .int wh)] := hl
  refine lv_iload_n hx hb dX11_fault_0 rfl (lv_at hl 1 rfl) ?_
  by_cases hk_1_0 : wh = 0
  · subst hk_1_0
    refine lv_lookup (off := 27) (tgt := 28) hx hb dX11_fault_1 (by decide) (by decide) (by decide) ?_
    refine lv_aload_n hx hb dX11_fault_28 rfl (lv_at hl 0 rfl) ?_
    obtain ⟨x_1, x_2, x_3, x_4, x_5, x_6, x_7, x_8, x_9, x_10, x_11, x_12, x_13, hS_o, hT_x_1, hT_x_2, hT_x_3, hT_x_4, hT_x_5, hT_x_6, hT_x_7, hT_x_8, hT_x_9, hT_x_10, hT_x_11, hT_x_12⟩ := hTy.k11 hT_o
    refine pl_get (ci := 11) (v := .ref x_2) (C := RX11) (T := TX11) (N := 13) hx hb hT iX11 hown hK hW hT_o.1 hS_o rfl 1 (by decide) w354 rfl dX11_fault_29 ?_
    obtain ⟨x_14, x_15, x_16, x_17, x_18, x_19, x_20, x_21, x_22, x_23, hS_x_2, hT_x_16, hT_x_17, hT_x_18, hb_x_19, hb_x_22, hb_x_23⟩ := hTy.k6 hT_x_2
    refine pl_get (ci := 6) (v := .int x_14) (C := RX6) (T := TX6) (N := 10) hx hb hT iX6 hown hK hW hT_x_2.1 hS_x_2 rfl 0 (by decide) w140 rfl dX11_fault_32 ?_
    exact W.iret (v := x_14) hx hb hr (fun t ht h9 => ⟨⟨x_14, S, rfl, ⟨hTy, hFr, (by rw [FLT, if_pos rfl, ← (hwE x_2 hT_x_2).1]; exact (inf_i hS_x_2 rfl).symm)⟩, by rw [ht]; exact hW.1, va_K.moved h9.alike hK, hW.2.1⟩, hW.2.2.F ht⟩) hW.2.2.2.2 dX11_fault_35
  by_cases hk_1_1 : wh = 1
  · subst hk_1_1
    refine lv_lookup (off := 35) (tgt := 36) hx hb dX11_fault_1 (by decide) (by decide) (by decide) ?_
    refine lv_aload_n hx hb dX11_fault_36 rfl (lv_at hl 0 rfl) ?_
    obtain ⟨x_24, x_25, x_26, x_27, x_28, x_29, x_30, x_31, x_32, x_33, x_34, x_35, x_36, hS_o, hT_x_24, hT_x_25, hT_x_26, hT_x_27, hT_x_28, hT_x_29, hT_x_30, hT_x_31, hT_x_32, hT_x_33, hT_x_34, hT_x_35⟩ := hTy.k11 hT_o
    refine pl_get (ci := 11) (v := .ref x_25) (C := RX11) (T := TX11) (N := 13) hx hb hT iX11 hown hK hW hT_o.1 hS_o rfl 1 (by decide) w354 rfl dX11_fault_37 ?_
    obtain ⟨x_37, x_38, x_39, x_40, x_41, x_42, x_43, x_44, x_45, x_46, hS_x_25, hT_x_39, hT_x_40, hT_x_41, hb_x_42, hb_x_45, hb_x_46⟩ := hTy.k6 hT_x_25
    refine pl_get (ci := 6) (v := .int x_38) (C := RX6) (T := TX6) (N := 10) hx hb hT iX6 hown hK hW hT_x_25.1 hS_x_25 rfl 1 (by decide) w142 rfl dX11_fault_40 ?_
    exact W.iret (v := x_38) hx hb hr (fun t ht h9 => ⟨⟨x_38, S, rfl, ⟨hTy, hFr, (by rw [FLT, if_neg (by decide), if_pos rfl, ← (hwE x_25 hT_x_25).2]; exact (inf_i hS_x_25 rfl).symm)⟩, by rw [ht]; exact hW.1, va_K.moved h9.alike hK, hW.2.1⟩, hW.2.2.F ht⟩) hW.2.2.2.2 dX11_fault_43
  refine lv_lookup (off := 43) (tgt := 44) hx hb dX11_fault_1 (by decide) (by show Op.lookupswitch.offset [(0, 27), (1, 35)] 43 _ = _; rw [lv_osw (a := 0) hk_1_0 (by decide), lv_osw (a := 1) hk_1_1 (by decide)]; rfl) (by decide) ?_
  refine lv_iconst (v := (-1)) hx hb dX11_fault_44 (by decide) ?_
  exact W.iret (v := (-1)) hx hb hr (fun t ht h9 => ⟨⟨(-1), S, rfl, ⟨hTy, hFr, (by rw [FLT, if_neg hk_1_0, if_neg hk_1_1])⟩, by rw [ht]; exact hW.1, va_K.moved h9.alike hK, hW.2.1⟩, hW.2.2.F ht⟩) hW.2.2.2.2 dX11_fault_45

