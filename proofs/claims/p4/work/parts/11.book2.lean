set_option maxHeartbeats 4000000 in
set_option maxRecDepth 100000 in
theorem s_remove (l : Launch) (dC : Nat → ClassId) (dI : Nat → Nat → Nat) (cy : Nat → ClassId) (L : List Nat) (kap : Nat → Nat) (pr : Pr) (S : Nat → va_E) (sz : Nat) (b : Nat) (t : Nat) (hTy : Ty cy L kap pr S) (hT_b : TK L kap b 0) (hb_t : t ≤ 40) (n : Nat) (hn : n + 1 ≤ 40) (hz : bsz S b (n + 1)) : Met l yX0_remove (wT yX0_remove cX0_remove 3 none) ({ frames := 1, cells := 0, slots := 0, locals := 23 }) (pcN dC dI [.ref b, .int (nI t)] sz (va_pl L S) (cyT cy) NLs []) (va_Qv (fun S' => Ty cy L kap pr S' ∧ Fr kap [0, 20, 21, 22, 23] S S' ∧ (bsz S' b n)) (fun S' t => pB dC dI (AL L sz) (va_pl L S') (cyT cy) t) (AL L sz)) 0 0 (AL L sz) := by
  refine Met.ofW (cc := cX0_remove) (maxL := 3) (ret := none) (by decide) rfl ?_
  intro p e s m args below meth c s₁ B hml hv
  obtain ⟨rfl, hsz, hP, hK, hD0, hN, -⟩ := hv
  have hx := B.exec
  have hb := B.bytes
  have hr := B.returns
  have hT : ∀ wd ∈ TB, wd.before [.ref b, .int (nI t)].toArray s = true := fun wd h => atoms_spec (ws := wT yX0_remove cX0_remove 3 none) B.pre wd (List.mem_cons_of_mem _ h)
  have hown : s.vm.findClass RX0 = some m.cls := findClass_of_methodNamed B.named
  have hlocks := B.notSynchronized
  subst hsz
  have hW : PW dC dI L (AL L s.heap.size) s.heap S s.heap [] := ⟨hP, pl_self hD0, va_S.rf⟩
  have hA0 : ∀ q, q ∈ L → AL L s.heap.size q := fun _ h => Or.inl h
  have hA : ∀ q, s.heap.size ≤ q → AL L s.heap.size q := fun _ h => Or.inr h
  have hFr : Fr kap [0, 20, 21, 22, 23] S S := Fr.rf
  have hl := lv_entry ([.ref b, .int (nI t)]) (n := 3) (Nat.le_of_ble_eq_true rfl)
  rw [lg_entry_eq]
  generalize (lg_sl ([.ref b, .int (nI t)]) ++ List.replicate (3 - (lg_sl ([.ref b, .int (nI t)])).length) Slot.unset).toArray = ls at hl ⊢
  have hl : lv_has ls 3 [(0, .ref b), (1, .int (nI t))] := hl
  obtain ⟨x_1, x_2, x_3, x_4, x_5, x_6, x_7, hS_b, hT_x_1, hT_x_2, hT_x_3, hT_x_4, hT_x_5, hT_x_6⟩ := bszk hTy hT_b hz hn
  refine lv_iload_n hx hb dX0_remove_0 rfl (lv_at hl 1 rfl) ?_
  refine lv_istore_n (lv' := [(2, .int (nI t)), (0, .ref b), (1, .int (nI t))]) hx hb dX0_remove_1 rfl hl (by decide) rfl (fun ls hl => ?_)
  have loop : ∀ (fuel : Nat) (i : Nat) (SS : Nat → va_E) (H : Heap) (locs : List Loc) (ls : Array Slot), 41 - i < fuel → (i ≤ 40) → Ty cy L kap pr SS → Fr kap [0, 20, 21, 22, 23] S SS → Fr kap [20, 21, 22, 23] S SS → PW dC dI L (AL L s.heap.size) s.heap SS H locs → lv_has ls 3 [(2, .int (nI i)), (0, .ref b), (1, .int (nI t))] → W p l e (headSpec (wT yX0_remove cX0_remove 3 none) { frames := 1, cells := 0, slots := 0, locals := 23 }).room s m [.ref b, .int (nI t)].toArray below meth c H locs 0 0 (MQ below (va_Qv (fun S' => Ty cy L kap pr S' ∧ Fr kap [0, 20, 21, 22, 23] S S' ∧ (bsz S' b n)) (fun S' t => pB dC dI (AL L s.heap.size) (va_pl L S') (cyT cy) t) (AL L s.heap.size)) [.ref b, .int (nI t)].toArray s 0 0 (AL L s.heap.size)) (F0 m 2 ls []) := by
    intro fuel
    induction fuel with
    | zero => intro i SS H locs ls h; exact absurd h (Nat.not_lt_zero _)
    | succ fu2 ih2 =>
      intro i S_8 H locs ls hm2 hb_i hTy hFr hFl2 hW hl
      have hS_b := hFl2.at hT_b (by decide) hS_b
      refine lv_iload_n hx hb dX0_remove_2 rfl (lv_at hl 0 rfl) ?_
      refine lv_iconst (v := 1) hx hb dX0_remove_3 (by decide) ?_
      refine lv_iadd hx hb dX0_remove_4 ?_
      refine lv_topi (fun z_9 ez_9 => ?_)
      obtain rfl : z_9 = nI (i + 1) := ez_9.trans (nI_add (i) (1))
      refine lv_aload_n hx hb dX0_remove_5 rfl (lv_at hl 1 rfl) ?_
      refine pl_get (ci := 0) (v := .int (nI (n + 1))) (C := RX0) (T := TX0) (N := 8) hx hb hT iX0 hown hK hW hT_b.1 hS_b rfl 6 (by decide) w112 rfl dX0_remove_6 ?_
      refine lv_icmp_ge (tgt := 27) hx hb dX0_remove_9 (by decide) (fun c_9 => ?_) (fun c_9 => ?_)
      · have c_9 : (n + 1) ≤ (i + 1) := (nI_leI (a := n + 1) (b := i + 1) (by omega) (by omega)).mp c_9
        refine lv_aload_n hx hb dX0_remove_27 rfl (lv_at hl 1 rfl) ?_
        refine lv_dup hx hb dX0_remove_28 rfl ?_
        refine pl_get (ci := 0) (v := .int (nI (n + 1))) (C := RX0) (T := TX0) (N := 8) hx hb hT iX0 hown hK hW hT_b.1 hS_b rfl 6 (by decide) w112 rfl dX0_remove_29 ?_
        refine lv_iconst (v := 1) hx hb dX0_remove_32 (by decide) ?_
        refine lv_isub hx hb dX0_remove_33 ?_
        refine lv_topi (fun z_10 ez_10 => ?_)
        obtain rfl : z_10 = nI ((n + 1) - 1) := ez_10.trans (pk_sub (a := n + 1) (b := 1) (by omega))
        refine pl_put (ci := 0) (v := .int (nI ((n + 1) - 1))) (ty := .int) (C := RX0) (T := TX0) (N := 8) (fs' := [.ref x_1, .ref x_2, .ref x_3, .ref x_4, .ref x_5, .ref x_6, .int (nI ((n + 1) - 1)), .int x_7]) hx hb hT iX0 tyX0 tyX0_ok nmX0 hown hK hW hT_b.1 hS_b rfl 6 (by decide) w112 rfl (by decide +kernel) rfl rfl (Nat.le_of_ble_eq_true rfl) rfl dX0_remove_34 (fun H locs S_11 e1 hW => ?_)
        have hTy := hTy.u0 e1 hT_b ⟨x_1, x_2, x_3, x_4, x_5, x_6, (n + 1) - 1, x_7, rfl, hT_x_1, hT_x_2, hT_x_3, hT_x_4, hT_x_5, hT_x_6, (by omega)⟩
        have hFr := uf hFr e1 hT_b (by decide) (by decide)
        have hS_b := us e1
        exact W.vret hx hb hr (fun t ht h9 => ⟨⟨S_11, rfl, ⟨hTy, hFr, ⟨_, _, _, _, _, _, _, hS_b⟩⟩, by rw [ht]; exact hW.1, va_K.moved h9.alike hK, hW.2.1⟩, hW.2.2.F ht⟩) hW.2.2.2.2 dX0_remove_37
      · have c_9 : ¬ ((n + 1) ≤ (i + 1)) := fun hh9 => c_9 ((nI_leI (a := n + 1) (b := i + 1) (by omega) (by omega)).mpr hh9)
        refine lv_aload_n hx hb dX0_remove_12 rfl (lv_at hl 1 rfl) ?_
        refine lv_aload_n hx hb dX0_remove_13 rfl (lv_at hl 1 rfl) ?_
        refine lv_iload_n hx hb dX0_remove_14 rfl (lv_at hl 0 rfl) ?_
        refine lv_iconst (v := 1) hx hb dX0_remove_15 (by decide) ?_
        refine lv_iadd hx hb dX0_remove_16 ?_
        refine lv_topi (fun z_12 ez_12 => ?_)
        obtain rfl : z_12 = nI (i + 1) := ez_12.trans (nI_add (i) (1))
        refine lv_iload_n hx hb dX0_remove_17 rfl (lv_at hl 0 rfl) ?_
        refine pl_callv (va_runV (As := [.ref b, .int (nI (i + 1)), .int (nI i)]) (rest := []) ⟨hx, hb, hml, hown, hT⟩ (s_copyTrade l dC dI cy L kap pr S_8 H.size b b (i + 1) i hTy hT_b hT_b (by omega) (by omega)) (cwV 3 hT (gV w627 w629 ws27 w5 w630) rfl rfl rfl (by decide +kernel) ⟨(Nat.le_of_ble_eq_true rfl), (Nat.le_of_ble_eq_true rfl)⟩) ⟨pcN.blind, pl_recv hK hW hT_b.1 hS_b rfl, pcN.pre hW.1 hK hW.2.1 hN (fun q h => absurd h List.not_mem_nil)⟩ rfl rfl hl.1 rfl (lv_room (Nat.le_of_ble_eq_true rfl)) dX0_remove_18 ⟨(Nat.le_of_ble_eq_true rfl), (Nat.le_of_ble_eq_true rfl)⟩) hW hA0 hA (fun S_13 H locs hrel hW => ?_)
        obtain ⟨hTy, hF1⟩ := hrel
        have hFr := hFr.tr hF1 (by decide)
        have hFl2 := hFl2.tr hF1 (by decide)
        have hS_b := hF1.at hT_b (by decide) hS_b
        refine lv_iinc (v := nI (i + 1)) (lv' := [(2, .int (nI (i + 1))), (0, .ref b), (1, .int (nI t))]) hx hb dX0_remove_21 hl (k := 0) rfl (nI_add (i) 1) (by decide) rfl (fun ls hl => ?_)
        refine lv_goto (tgt := 2) hx hb dX0_remove_24 (by decide) ?_
        exact ih2 (i + 1) _ _ _ ls (by omega) (by omega) hTy hFr hFl2 hW (lv_sub hl [0, 1, 2] rfl)
  exact loop ((41 - t) + 1) t _ _ _ ls (Nat.lt_succ_self _) (by omega) hTy hFr Fr.rf hW (lv_sub hl [0, 1, 2] rfl)

set_option maxHeartbeats 4000000 in
set_option maxRecDepth 100000 in
theorem s_removeOpen (l : Launch) (dC : Nat → ClassId) (dI : Nat → Nat → Nat) (cy : Nat → ClassId) (L : List Nat) (kap : Nat → Nat) (pr : Pr) (S : Nat → va_E) (sz : Nat) (b : Nat) (k : Int32) (hTy : Ty cy L kap pr S) (hT_b : TK L kap b 0) : Met l yX0_removeOpen (wT yX0_removeOpen cX0_removeOpen 3 none) ({ frames := 2, cells := 0, slots := 0, locals := 45 }) (pcN dC dI [.ref b, .int k] sz (va_pl L S) (cyT cy) NLs []) (va_Qv (fun S' => Ty cy L kap pr S' ∧ Fr kap [0, 20, 21, 22, 23] S S') (fun S' t => pB dC dI (AL L sz) (va_pl L S') (cyT cy) t) (AL L sz)) 0 0 (AL L sz) := by
  refine Met.ofW (cc := cX0_removeOpen) (maxL := 3) (ret := none) (by decide) rfl ?_
  intro p e s m args below meth c s₁ B hml hv
  obtain ⟨rfl, hsz, hP, hK, hD0, hN, -⟩ := hv
  have hx := B.exec
  have hb := B.bytes
  have hr := B.returns
  have hT : ∀ wd ∈ TB, wd.before [.ref b, .int k].toArray s = true := fun wd h => atoms_spec (ws := wT yX0_removeOpen cX0_removeOpen 3 none) B.pre wd (List.mem_cons_of_mem _ h)
  have hown : s.vm.findClass RX0 = some m.cls := findClass_of_methodNamed B.named
  have hlocks := B.notSynchronized
  subst hsz
  have hW : PW dC dI L (AL L s.heap.size) s.heap S s.heap [] := ⟨hP, pl_self hD0, va_S.rf⟩
  have hA0 : ∀ q, q ∈ L → AL L s.heap.size q := fun _ h => Or.inl h
  have hA : ∀ q, s.heap.size ≤ q → AL L s.heap.size q := fun _ h => Or.inr h
  have hFr : Fr kap [0, 20, 21, 22, 23] S S := Fr.rf
  have hl := lv_entry ([.ref b, .int k]) (n := 3) (Nat.le_of_ble_eq_true rfl)
  rw [lg_entry_eq]
  generalize (lg_sl ([.ref b, .int k]) ++ List.replicate (3 - (lg_sl ([.ref b, .int k])).length) Slot.unset).toArray = ls at hl ⊢
  have hl : lv_has ls 3 [(0, .ref b), (1, .int k)] := hl
  refine lv_aload_n hx hb dX0_removeOpen_0 rfl (lv_at hl 0 rfl) ?_
  obtain ⟨x_1, x_2, x_3, x_4, x_5, x_6, x_7, x_8, hS_b, hT_x_1, hT_x_2, hT_x_3, hT_x_4, hT_x_5, hT_x_6, hb_x_7⟩ := hTy.k0 hT_b
  refine pl_get (ci := 0) (v := .int (nI x_7)) (C := RX0) (T := TX0) (N := 8) hx hb hT iX0 hown hK hW hT_b.1 hS_b rfl 6 (by decide) w112 rfl dX0_removeOpen_1 ?_
  refine lv_iconst (v := 1) hx hb dX0_removeOpen_4 (by decide) ?_
  refine lv_isub hx hb dX0_removeOpen_5 ?_
  refine lv_topi (fun z_9 ez_9 => ?_)
  obtain rfl : z_9 = pd (x_7) := ez_9
  refine lv_istore_n (lv' := [(2, .int (pd x_7)), (0, .ref b), (1, .int k)]) hx hb dX0_removeOpen_6 rfl hl (by decide) rfl (fun ls hl => ?_)
  have loop : ∀ (fuel : Nat) (j : Nat) (n : Nat) (SS : Nat → va_E) (H : Heap) (locs : List Loc) (ls : Array Slot), j < fuel → (j ≤ 40) → (bsz SS b n) → (n ≤ 40) → (j ≤ n) → Ty cy L kap pr SS → Fr kap [0, 20, 21, 22, 23] S SS → Fr kap [0, 20, 21, 22, 23] S SS → PW dC dI L (AL L s.heap.size) s.heap SS H locs → lv_has ls 3 [(2, .int (pd j)), (0, .ref b), (1, .int k)] → W p l e (headSpec (wT yX0_removeOpen cX0_removeOpen 3 none) { frames := 2, cells := 0, slots := 0, locals := 45 }).room s m [.ref b, .int k].toArray below meth c H locs 0 0 (MQ below (va_Qv (fun S' => Ty cy L kap pr S' ∧ Fr kap [0, 20, 21, 22, 23] S S') (fun S' t => pB dC dI (AL L s.heap.size) (va_pl L S') (cyT cy) t) (AL L s.heap.size)) [.ref b, .int k].toArray s 0 0 (AL L s.heap.size)) (F0 m 7 ls []) := by
    intro fuel
    induction fuel with
    | zero => intro j n SS H locs ls h; exact absurd h (Nat.not_lt_zero _)
    | succ fu7 ih7 =>
      intro j n S_10 H locs ls hm7 hb_j hz hn hjn hTy hFr hFl7 hW hl
      refine lv_iload_n hx hb dX0_removeOpen_7 rfl (lv_at hl 0 rfl) ?_
      refine lv_if_lt (tgt := 41) hx hb dX0_removeOpen_8 (by decide) (fun c_8 => ?_) (fun c_8 => ?_)
      · have c_8 : j = 0 := (pd_lt (by omega)).mp c_8
        exact W.vret hx hb hr (fun t ht h9 => ⟨⟨S_10, rfl, ⟨hTy, hFr⟩, by rw [ht]; exact hW.1, va_K.moved h9.alike hK, hW.2.1⟩, hW.2.2.F ht⟩) hW.2.2.2.2 dX0_removeOpen_41
      · have c_8 : 0 < j := pd_p (by omega) c_8
        obtain ⟨j_11, rfl⟩ : ∃ w9, j = w9 + 1 := ⟨j - 1, by omega⟩
        rw [pd_s] at hl
        refine lv_aload_n hx hb dX0_removeOpen_11 rfl (lv_at hl 1 rfl) ?_
        obtain ⟨x_12, x_13, x_14, x_15, x_16, x_17, x_18, x_19, hS_b, hT_x_12, hT_x_13, hT_x_14, hT_x_15, hT_x_16, hT_x_17, hb_x_18⟩ := hTy.k0 hT_b
        refine pl_get (ci := 0) (v := .ref x_14) (C := RX0) (T := TX0) (N := 8) hx hb hT iX0 hown hK hW hT_b.1 hS_b rfl 2 (by decide) w96 rfl dX0_removeOpen_12 ?_
        refine lv_iload_n hx hb dX0_removeOpen_15 rfl (lv_at hl 0 rfl) ?_
        obtain ⟨f_20, hS_x_14, hi_f_20⟩ := hTy.k21 hT_x_14
        refine pl_iald hx hb hK hW hT_x_14.1 hS_x_14 (vp_in_nI (n := j_11) (N := 40) (by omega) (by omega)) dX0_removeOpen_16 ?_
        refine lv_topi (fun y_21 ey_21 => ?_)
        obtain ⟨k_22, hb_k_22, hq_k_22⟩ := hi_f_20 (j_11) (by omega)
        obtain rfl : y_21 = nI k_22 := ey_21.trans (by show f_20 (nI (j_11)).toNatClampNeg = _; rw [nI_clamp (by omega)]; exact hq_k_22)
        refine lv_iload_n hx hb dX0_removeOpen_17 rfl (lv_at hl 2 rfl) ?_
        refine lv_icmp_ne (tgt := 35) hx hb dX0_removeOpen_18 (by decide) (fun c_18 => ?_) (fun c_18 => ?_)
        · refine lv_iinc (v := pd j_11) (lv' := [(2, .int (pd j_11)), (0, .ref b), (1, .int k)]) hx hb dX0_removeOpen_35 hl (k := 0) rfl (pd_dec _) (by decide) rfl (fun ls hl => ?_)
          refine lv_goto (tgt := 7) hx hb dX0_removeOpen_38 (by decide) ?_
          exact ih7 j_11 n _ _ _ ls (by omega) (by omega) hz (by omega) (by omega) hTy hFr hFl7 hW (lv_sub hl [0, 1, 2] rfl)
        · refine lv_aload_n hx hb dX0_removeOpen_21 rfl (lv_at hl 1 rfl) ?_
          refine pl_get (ci := 0) (v := .ref x_16) (C := RX0) (T := TX0) (N := 8) hx hb hT iX0 hown hK hW hT_b.1 hS_b rfl 4 (by decide) w104 rfl dX0_removeOpen_22 ?_
          refine lv_iload_n hx hb dX0_removeOpen_25 rfl (lv_at hl 0 rfl) ?_
          obtain ⟨f_23, hS_x_16⟩ := hTy.k23 hT_x_16
          refine pl_zald hx hb hK hW hT_x_16.1 hS_x_16 (vp_in_nI (n := j_11) (N := 40) (by omega) (by omega)) dX0_removeOpen_26 ?_
          refine lv_topi (fun y_24 ey_24 => ?_)
          refine lv_if_ne (tgt := 35) hx hb dX0_removeOpen_27 (by decide) (fun c_27 => ?_) (fun c_27 => ?_)
          · refine lv_iinc (v := pd j_11) (lv' := [(2, .int (pd j_11)), (0, .ref b), (1, .int k)]) hx hb dX0_removeOpen_35 hl (k := 0) rfl (pd_dec _) (by decide) rfl (fun ls hl => ?_)
            refine lv_goto (tgt := 7) hx hb dX0_removeOpen_38 (by decide) ?_
            exact ih7 j_11 n _ _ _ ls (by omega) (by omega) hz (by omega) (by omega) hTy hFr hFl7 hW (lv_sub hl [0, 1, 2] rfl)
          · refine lv_aload_n hx hb dX0_removeOpen_30 rfl (lv_at hl 1 rfl) ?_
            refine lv_iload_n hx hb dX0_removeOpen_31 rfl (lv_at hl 0 rfl) ?_
            obtain ⟨n', rfl⟩ : ∃ n', n = n' + 1 := ⟨n - 1, by omega⟩
            refine pl_callv (va_runV (As := [.int (nI j_11)]) (rest := []) ⟨hx, hb, hml, hown, hT⟩ (s_remove l dC dI cy L kap pr S_10 H.size b j_11 hTy hT_b (by omega) n' (by omega) hz) (cwV 1 hT (gV w724 w644 w645 w5 w646) rfl rfl rfl (by decide +kernel) ⟨(Nat.le_of_ble_eq_true rfl), (Nat.le_of_ble_eq_true rfl)⟩) ⟨pcN.blind, pl_recv hK hW hT_b.1 hS_b rfl, pcN.pre hW.1 hK hW.2.1 hN (fun q h => absurd h List.not_mem_nil)⟩ rfl rfl hl.1 rfl (lv_room (Nat.le_of_ble_eq_true rfl)) dX0_removeOpen_32 ⟨(Nat.le_of_ble_eq_true rfl), (Nat.le_of_ble_eq_true rfl)⟩) hW hA0 hA (fun S_25 H locs hrel hW => ?_)
            obtain ⟨hTy, hF1, hx1⟩ := hrel
            have hFr := hFr.tr hF1 (by decide)
            have hFl7 := hFl7.tr hF1 (by decide)
            have hz := hx1
            refine lv_iinc (v := pd j_11) (lv' := [(2, .int (pd j_11)), (0, .ref b), (1, .int k)]) hx hb dX0_removeOpen_35 hl (k := 0) rfl (pd_dec _) (by decide) rfl (fun ls hl => ?_)
            refine lv_goto (tgt := 7) hx hb dX0_removeOpen_38 (by decide) ?_
            exact ih7 j_11 n' _ _ _ ls (by omega) (by omega) hz (by omega) (by omega) hTy hFr hFl7 hW (lv_sub hl [0, 1, 2] rfl)
  exact loop ((x_7) + 1) x_7 x_7 _ _ _ ls (Nat.lt_succ_self _) (by omega) ⟨_, _, _, _, _, _, _, hS_b⟩ (by omega) (by omega) hTy hFr Fr.rf hW (lv_sub hl [0, 1, 2] rfl)

set_option maxHeartbeats 4000000 in
set_option maxRecDepth 100000 in
theorem s_lessen (l : Launch) (dC : Nat → ClassId) (dI : Nat → Nat → Nat) (cy : Nat → ClassId) (L : List Nat) (kap : Nat → Nat) (pr : Pr) (S : Nat → va_E) (sz : Nat) (b : Nat) (g : Int32) (t : Int32) (k : Int32) (much : Int64) (hTy : Ty cy L kap pr S) (hT_b : TK L kap b 0) : Met l yX0_lessen (wT yX0_lessen cX0_lessen 11 none) ({ frames := 2, cells := 0, slots := 0, locals := 45 }) (pcN dC dI [.ref b, .int g, .int t, .int k, .long much] sz (va_pl L S) (cyT cy) NLs []) (va_Qv (fun S' => Ty cy L kap pr S' ∧ Fr kap [0, 20, 21, 22, 23] S S') (fun S' t => pB dC dI (AL L sz) (va_pl L S') (cyT cy) t) (AL L sz)) 0 0 (AL L sz) := by
  refine Met.ofW (cc := cX0_lessen) (maxL := 11) (ret := none) (by decide) rfl ?_
  intro p e s m args below meth c s₁ B hml hv
  obtain ⟨rfl, hsz, hP, hK, hD0, hN, -⟩ := hv
  have hx := B.exec
  have hb := B.bytes
  have hr := B.returns
  have hT : ∀ wd ∈ TB, wd.before [.ref b, .int g, .int t, .int k, .long much].toArray s = true := fun wd h => atoms_spec (ws := wT yX0_lessen cX0_lessen 11 none) B.pre wd (List.mem_cons_of_mem _ h)
  have hown : s.vm.findClass RX0 = some m.cls := findClass_of_methodNamed B.named
  have hlocks := B.notSynchronized
  subst hsz
  have hW : PW dC dI L (AL L s.heap.size) s.heap S s.heap [] := ⟨hP, pl_self hD0, va_S.rf⟩
  have hA0 : ∀ q, q ∈ L → AL L s.heap.size q := fun _ h => Or.inl h
  have hA : ∀ q, s.heap.size ≤ q → AL L s.heap.size q := fun _ h => Or.inr h
  have hFr : Fr kap [0, 20, 21, 22, 23] S S := Fr.rf
  have hl := lv_entry ([.ref b, .int g, .int t, .int k, .long much]) (n := 11) (Nat.le_of_ble_eq_true rfl)
  rw [lg_entry_eq]
  generalize (lg_sl ([.ref b, .int g, .int t, .int k, .long much]) ++ List.replicate (11 - (lg_sl ([.ref b, .int g, .int t, .int k, .long much])).length) Slot.unset).toArray = ls at hl ⊢
  have hl : lv_has ls 11 [(0, .ref b), (1, .int g), (2, .int t), (3, .int k), (4, .long much)] := hl
  refine lv_lload hx hb dX0_lessen_0 (lv_at hl 4 rfl) ?_
  refine lv_lstore (lv' := [(6, .long much), (0, .ref b), (1, .int g), (2, .int t), (3, .int k), (4, .long much)]) hx hb dX0_lessen_2 hl (by decide) rfl (fun ls hl => ?_)
  refine lv_aload_n hx hb dX0_lessen_4 rfl (lv_at hl 1 rfl) ?_
  obtain ⟨x_1, x_2, x_3, x_4, x_5, x_6, x_7, x_8, hS_b, hT_x_1, hT_x_2, hT_x_3, hT_x_4, hT_x_5, hT_x_6, hb_x_7⟩ := hTy.k0 hT_b
  refine pl_get (ci := 0) (v := .int (nI x_7)) (C := RX0) (T := TX0) (N := 8) hx hb hT iX0 hown hK hW hT_b.1 hS_b rfl 6 (by decide) w112 rfl dX0_lessen_5 ?_
  refine lv_iconst (v := 1) hx hb dX0_lessen_8 (by decide) ?_
  refine lv_isub hx hb dX0_lessen_9 ?_
  refine lv_topi (fun z_9 ez_9 => ?_)
  obtain rfl : z_9 = pd (x_7) := ez_9
  refine lv_istore (lv' := [(8, .int (pd x_7)), (6, .long much), (0, .ref b), (1, .int g), (2, .int t), (3, .int k), (4, .long much)]) hx hb dX0_lessen_10 hl (by decide) rfl (fun ls hl => ?_)
  have loop : ∀ (fuel : Nat) (j : Nat) (rs : Int64) (n : Nat) (SS : Nat → va_E) (H : Heap) (locs : List Loc) (ls : Array Slot), j < fuel → (j ≤ 40) → (bsz SS b n) → (n ≤ 40) → (j ≤ n) → Ty cy L kap pr SS → Fr kap [0, 20, 21, 22, 23] S SS → Fr kap [0, 20, 21, 22, 23] S SS → PW dC dI L (AL L s.heap.size) s.heap SS H locs → lv_has ls 11 [(8, .int (pd j)), (6, .long rs), (0, .ref b), (1, .int g), (2, .int t), (3, .int k), (4, .long much)] → W p l e (headSpec (wT yX0_lessen cX0_lessen 11 none) { frames := 2, cells := 0, slots := 0, locals := 45 }).room s m [.ref b, .int g, .int t, .int k, .long much].toArray below meth c H locs 0 0 (MQ below (va_Qv (fun S' => Ty cy L kap pr S' ∧ Fr kap [0, 20, 21, 22, 23] S S') (fun S' t => pB dC dI (AL L s.heap.size) (va_pl L S') (cyT cy) t) (AL L s.heap.size)) [.ref b, .int g, .int t, .int k, .long much].toArray s 0 0 (AL L s.heap.size)) (F0 m 12 ls []) := by
    intro fuel
    induction fuel with
    | zero => intro j rs n SS H locs ls h; exact absurd h (Nat.not_lt_zero _)
    | succ fu12 ih12 =>
      intro j rs n S_10 H locs ls hm12 hb_j hz hn hjn hTy hFr hFl12 hW hl
      refine lv_iload hx hb dX0_lessen_12 (lv_at hl 0 rfl) ?_
      refine lv_if_lt (tgt := 117) hx hb dX0_lessen_14 (by decide) (fun c_14 => ?_) (fun c_14 => ?_)
      · have c_14 : j = 0 := (pd_lt (by omega)).mp c_14
        exact W.vret hx hb hr (fun t ht h9 => ⟨⟨S_10, rfl, ⟨hTy, hFr⟩, by rw [ht]; exact hW.1, va_K.moved h9.alike hK, hW.2.1⟩, hW.2.2.F ht⟩) hW.2.2.2.2 dX0_lessen_117
      · have c_14 : 0 < j := pd_p (by omega) c_14
        obtain ⟨j_11, rfl⟩ : ∃ w9, j = w9 + 1 := ⟨j - 1, by omega⟩
        rw [pd_s] at hl
        refine lv_aload_n hx hb dX0_lessen_17 rfl (lv_at hl 2 rfl) ?_
        obtain ⟨x_12, x_13, x_14, x_15, x_16, x_17, x_18, x_19, hS_b, hT_x_12, hT_x_13, hT_x_14, hT_x_15, hT_x_16, hT_x_17, hb_x_18⟩ := hTy.k0 hT_b
        refine pl_get (ci := 0) (v := .ref x_12) (C := RX0) (T := TX0) (N := 8) hx hb hT iX0 hown hK hW hT_b.1 hS_b rfl 0 (by decide) w88 rfl dX0_lessen_18 ?_
        refine lv_iload hx hb dX0_lessen_21 (lv_at hl 0 rfl) ?_
        obtain ⟨f_20, hS_x_12, hi_f_20⟩ := hTy.k20 hT_x_12
        refine pl_iald hx hb hK hW hT_x_12.1 hS_x_12 (vp_in_nI (n := j_11) (N := 40) (by omega) (by omega)) dX0_lessen_23 ?_
        refine lv_topi (fun y_21 ey_21 => ?_)
        obtain ⟨k_22, hb_k_22, hq_k_22⟩ := hi_f_20 (j_11) (by omega)
        obtain rfl : y_21 = nI k_22 := ey_21.trans (by show f_20 (nI (j_11)).toNatClampNeg = _; rw [nI_clamp (by omega)]; exact hq_k_22)
        refine lv_iload_n hx hb dX0_lessen_24 rfl (lv_at hl 3 rfl) ?_
        refine lv_icmp_ne (tgt := 111) hx hb dX0_lessen_25 (by decide) (fun c_25 => ?_) (fun c_25 => ?_)
        · refine lv_iinc (v := pd j_11) (lv' := [(8, .int (pd j_11)), (6, .long rs), (0, .ref b), (1, .int g), (2, .int t), (3, .int k), (4, .long much)]) hx hb dX0_lessen_111 hl (k := 0) rfl (pd_dec _) (by decide) rfl (fun ls hl => ?_)
          refine lv_goto (tgt := 12) hx hb dX0_lessen_114 (by decide) ?_
          exact ih12 j_11 rs n _ _ _ ls (by omega) (by omega) hz (by omega) (by omega) hTy hFr hFl12 hW (lv_sub hl [0, 1, 2, 3, 4, 5, 6] rfl)
        · refine lv_aload_n hx hb dX0_lessen_28 rfl (lv_at hl 2 rfl) ?_
          refine pl_get (ci := 0) (v := .ref x_13) (C := RX0) (T := TX0) (N := 8) hx hb hT iX0 hown hK hW hT_b.1 hS_b rfl 1 (by decide) w92 rfl dX0_lessen_29 ?_
          refine lv_iload hx hb dX0_lessen_32 (lv_at hl 0 rfl) ?_
          obtain ⟨f_23, hS_x_13, hi_f_23⟩ := hTy.k20 hT_x_13
          refine pl_iald hx hb hK hW hT_x_13.1 hS_x_13 (vp_in_nI (n := j_11) (N := 40) (by omega) (by omega)) dX0_lessen_34 ?_
          refine lv_topi (fun y_24 ey_24 => ?_)
          obtain ⟨k_25, hb_k_25, hq_k_25⟩ := hi_f_23 (j_11) (by omega)
          obtain rfl : y_24 = nI k_25 := ey_24.trans (by show f_23 (nI (j_11)).toNatClampNeg = _; rw [nI_clamp (by omega)]; exact hq_k_25)
          refine lv_iload_n hx hb dX0_lessen_35 rfl (lv_at hl 4 rfl) ?_
          refine lv_icmp_ne (tgt := 111) hx hb dX0_lessen_36 (by decide) (fun c_36 => ?_) (fun c_36 => ?_)
          · refine lv_iinc (v := pd j_11) (lv' := [(8, .int (pd j_11)), (6, .long rs), (0, .ref b), (1, .int g), (2, .int t), (3, .int k), (4, .long much)]) hx hb dX0_lessen_111 hl (k := 0) rfl (pd_dec _) (by decide) rfl (fun ls hl => ?_)
            refine lv_goto (tgt := 12) hx hb dX0_lessen_114 (by decide) ?_
            exact ih12 j_11 rs n _ _ _ ls (by omega) (by omega) hz (by omega) (by omega) hTy hFr hFl12 hW (lv_sub hl [0, 1, 2, 3, 4, 5, 6] rfl)
          · refine lv_aload_n hx hb dX0_lessen_39 rfl (lv_at hl 2 rfl) ?_
            refine pl_get (ci := 0) (v := .ref x_14) (C := RX0) (T := TX0) (N := 8) hx hb hT iX0 hown hK hW hT_b.1 hS_b rfl 2 (by decide) w96 rfl dX0_lessen_40 ?_
            refine lv_iload hx hb dX0_lessen_43 (lv_at hl 0 rfl) ?_
            obtain ⟨f_26, hS_x_14, hi_f_26⟩ := hTy.k21 hT_x_14
            refine pl_iald hx hb hK hW hT_x_14.1 hS_x_14 (vp_in_nI (n := j_11) (N := 40) (by omega) (by omega)) dX0_lessen_45 ?_
            refine lv_topi (fun y_27 ey_27 => ?_)
            obtain ⟨k_28, hb_k_28, hq_k_28⟩ := hi_f_26 (j_11) (by omega)
            obtain rfl : y_27 = nI k_28 := ey_27.trans (by show f_26 (nI (j_11)).toNatClampNeg = _; rw [nI_clamp (by omega)]; exact hq_k_28)
            refine lv_iload_n hx hb dX0_lessen_46 rfl (lv_at hl 5 rfl) ?_
            refine lv_icmp_ne (tgt := 111) hx hb dX0_lessen_47 (by decide) (fun c_47 => ?_) (fun c_47 => ?_)
            · refine lv_iinc (v := pd j_11) (lv' := [(8, .int (pd j_11)), (6, .long rs), (0, .ref b), (1, .int g), (2, .int t), (3, .int k), (4, .long much)]) hx hb dX0_lessen_111 hl (k := 0) rfl (pd_dec _) (by decide) rfl (fun ls hl => ?_)
              refine lv_goto (tgt := 12) hx hb dX0_lessen_114 (by decide) ?_
              exact ih12 j_11 rs n _ _ _ ls (by omega) (by omega) hz (by omega) (by omega) hTy hFr hFl12 hW (lv_sub hl [0, 1, 2, 3, 4, 5, 6] rfl)
            · refine lv_aload_n hx hb dX0_lessen_50 rfl (lv_at hl 2 rfl) ?_
              refine pl_get (ci := 0) (v := .ref x_16) (C := RX0) (T := TX0) (N := 8) hx hb hT iX0 hown hK hW hT_b.1 hS_b rfl 4 (by decide) w104 rfl dX0_lessen_51 ?_
              refine lv_iload hx hb dX0_lessen_54 (lv_at hl 0 rfl) ?_
              obtain ⟨f_29, hS_x_16⟩ := hTy.k23 hT_x_16
              refine pl_zald hx hb hK hW hT_x_16.1 hS_x_16 (vp_in_nI (n := j_11) (N := 40) (by omega) (by omega)) dX0_lessen_56 ?_
              refine lv_topi (fun y_30 ey_30 => ?_)
              refine lv_if_ne (tgt := 111) hx hb dX0_lessen_57 (by decide) (fun c_57 => ?_) (fun c_57 => ?_)
              · refine lv_iinc (v := pd j_11) (lv' := [(8, .int (pd j_11)), (6, .long rs), (0, .ref b), (1, .int g), (2, .int t), (3, .int k), (4, .long much)]) hx hb dX0_lessen_111 hl (k := 0) rfl (pd_dec _) (by decide) rfl (fun ls hl => ?_)
                refine lv_goto (tgt := 12) hx hb dX0_lessen_114 (by decide) ?_
                exact ih12 j_11 rs n _ _ _ ls (by omega) (by omega) hz (by omega) (by omega) hTy hFr hFl12 hW (lv_sub hl [0, 1, 2, 3, 4, 5, 6] rfl)
              · refine lv_lload hx hb dX0_lessen_60 (lv_at hl 1 rfl) ?_
                refine lv_aload_n hx hb dX0_lessen_62 rfl (lv_at hl 2 rfl) ?_
                refine pl_get (ci := 0) (v := .ref x_15) (C := RX0) (T := TX0) (N := 8) hx hb hT iX0 hown hK hW hT_b.1 hS_b rfl 3 (by decide) w100 rfl dX0_lessen_63 ?_
                refine lv_iload hx hb dX0_lessen_66 (lv_at hl 0 rfl) ?_
                obtain ⟨f_31, hS_x_15⟩ := hTy.k22 hT_x_15
                refine pl_lald hx hb hK hW hT_x_15.1 hS_x_15 (vp_in_nI (n := j_11) (N := 40) (by omega) (by omega)) dX0_lessen_68 ?_
                refine lv_topl (fun y_32 ey_32 => ?_)
                refine va_mmin_long hx hb (hml.trans hl.1.symm) hown (hT _ w723) (hT _ w716) (hT _ w15) (hT _ w717) (Nat.le_of_ble_eq_true rfl) (Nat.le_of_ble_eq_true rfl) (Nat.le_of_ble_eq_true rfl) (Nat.le_of_ble_eq_true rfl) dX0_lessen_69 ?_
                refine lv_topl (fun z_33 ez_33 => ?_)
                refine lv_lstore (lv' := [(9, .long z_33), (8, .int (nI j_11)), (6, .long rs), (0, .ref b), (1, .int g), (2, .int t), (3, .int k), (4, .long much)]) hx hb dX0_lessen_72 hl (by decide) rfl (fun ls hl => ?_)
                refine lv_aload_n hx hb dX0_lessen_74 rfl (lv_at hl 3 rfl) ?_
                refine pl_get (ci := 0) (v := .ref x_15) (C := RX0) (T := TX0) (N := 8) hx hb hT iX0 hown hK hW hT_b.1 hS_b rfl 3 (by decide) w100 rfl dX0_lessen_75 ?_
                refine lv_iload hx hb dX0_lessen_78 (lv_at hl 1 rfl) ?_
                refine lv_dup2_11 hx hb dX0_lessen_80 rfl rfl ?_
                refine pl_lald hx hb hK hW hT_x_15.1 hS_x_15 (vp_in_nI (n := j_11) (N := 40) (by omega) (by omega)) dX0_lessen_81 ?_
                refine lv_topl (fun y_34 ey_34 => ?_)
                refine lv_lload hx hb dX0_lessen_82 (lv_at hl 0 rfl) ?_
                refine lv_lsub hx hb dX0_lessen_84 ?_
                refine lv_topl (fun z_35 ez_35 => ?_)
                refine pl_last hx hb hK hW hT_x_15.1 hS_x_15 (vp_in_nI (n := j_11) (N := 40) (by omega) (by omega)) dX0_lessen_85 (fun H locs f_37 S_36 ef_f_37 e1 hW => ?_)
                have hTy := hTy.u22 e1 hT_x_15 ⟨f_37, rfl⟩
                have hS_b := un e1 hT_b hT_x_15 (by decide) hS_b
                have hS_x_12 := un e1 hT_x_12 hT_x_15 (by decide) hS_x_12
                have hS_x_13 := un e1 hT_x_13 hT_x_15 (by decide) hS_x_13
                have hS_x_14 := un e1 hT_x_14 hT_x_15 (by decide) hS_x_14
                have hS_x_16 := un e1 hT_x_16 hT_x_15 (by decide) hS_x_16
                have hz := bszm hz (un e1 hT_b hT_x_15 (by decide) rfl)
                have hFr := uf hFr e1 hT_x_15 (by decide) (by decide)
                have hFl12 := uf hFl12 e1 hT_x_15 (by decide) (by decide)
                have hS_x_15 := us e1
                refine lv_lload hx hb dX0_lessen_86 (lv_at hl 2 rfl) ?_
                refine lv_lload hx hb dX0_lessen_88 (lv_at hl 0 rfl) ?_
                refine lv_lsub hx hb dX0_lessen_90 ?_
                refine lv_topl (fun z_38 ez_38 => ?_)
                refine lv_lstore (lv' := [(6, .long z_38), (9, .long z_33), (8, .int (nI j_11)), (0, .ref b), (1, .int g), (2, .int t), (3, .int k), (4, .long much)]) hx hb dX0_lessen_91 hl (by decide) rfl (fun ls hl => ?_)
                refine lv_aload_n hx hb dX0_lessen_93 rfl (lv_at hl 3 rfl) ?_
                refine pl_get (ci := 0) (v := .ref x_15) (C := RX0) (T := TX0) (N := 8) hx hb hT iX0 hown hK hW hT_b.1 hS_b rfl 3 (by decide) w100 rfl dX0_lessen_94 ?_
                refine lv_iload hx hb dX0_lessen_97 (lv_at hl 2 rfl) ?_
                refine pl_lald hx hb hK hW hT_x_15.1 hS_x_15 (vp_in_nI (n := j_11) (N := 40) (by omega) (by omega)) dX0_lessen_99 ?_
                refine lv_topl (fun y_39 ey_39 => ?_)
                refine lv_lconst (v := 0) hx hb dX0_lessen_100 (by decide) ?_
                refine W.lcmp hx hb dX0_lessen_101 ?_
                refine lv_if_ne (tgt := 111) hx hb dX0_lessen_102 (by decide) (fun c_102 => ?_) (fun c_102 => ?_)
                · refine lv_iinc (v := pd j_11) (lv' := [(8, .int (pd j_11)), (6, .long z_38), (9, .long z_33), (0, .ref b), (1, .int g), (2, .int t), (3, .int k), (4, .long much)]) hx hb dX0_lessen_111 hl (k := 2) rfl (pd_dec _) (by decide) rfl (fun ls hl => ?_)
                  refine lv_goto (tgt := 12) hx hb dX0_lessen_114 (by decide) ?_
                  exact ih12 j_11 z_38 n _ _ _ ls (by omega) (by omega) hz (by omega) (by omega) hTy hFr hFl12 hW (lv_sub hl [0, 1, 3, 4, 5, 6, 7] rfl)
                · refine lv_aload_n hx hb dX0_lessen_105 rfl (lv_at hl 3 rfl) ?_
                  refine lv_iload hx hb dX0_lessen_106 (lv_at hl 2 rfl) ?_
                  obtain ⟨n', rfl⟩ : ∃ n', n = n' + 1 := ⟨n - 1, by omega⟩
                  refine pl_callv (va_runV (As := [.int (nI j_11)]) (rest := []) ⟨hx, hb, hml, hown, hT⟩ (s_remove l dC dI cy L kap pr S_36 H.size b j_11 hTy hT_b (by omega) n' (by omega) hz) (cwV 1 hT (gV w724 w644 w645 w5 w646) rfl rfl rfl (by decide +kernel) ⟨(Nat.le_of_ble_eq_true rfl), (Nat.le_of_ble_eq_true rfl)⟩) ⟨pcN.blind, pl_recv hK hW hT_b.1 hS_b rfl, pcN.pre hW.1 hK hW.2.1 hN (fun q h => absurd h List.not_mem_nil)⟩ rfl rfl hl.1 rfl (lv_room (Nat.le_of_ble_eq_true rfl)) dX0_lessen_108 ⟨(Nat.le_of_ble_eq_true rfl), (Nat.le_of_ble_eq_true rfl)⟩) hW hA0 hA (fun S_40 H locs hrel hW => ?_)
                  obtain ⟨hTy, hF1, hx1⟩ := hrel
                  have hFr := hFr.tr hF1 (by decide)
                  have hFl12 := hFl12.tr hF1 (by decide)
                  have hz := hx1
                  refine lv_iinc (v := pd j_11) (lv' := [(8, .int (pd j_11)), (6, .long z_38), (9, .long z_33), (0, .ref b), (1, .int g), (2, .int t), (3, .int k), (4, .long much)]) hx hb dX0_lessen_111 hl (k := 2) rfl (pd_dec _) (by decide) rfl (fun ls hl => ?_)
                  refine lv_goto (tgt := 12) hx hb dX0_lessen_114 (by decide) ?_
                  exact ih12 j_11 z_38 n' _ _ _ ls (by omega) (by omega) hz (by omega) (by omega) hTy hFr hFl12 hW (lv_sub hl [0, 1, 3, 4, 5, 6, 7] rfl)
  exact loop ((x_7) + 1) x_7 much x_7 _ _ _ ls (Nat.lt_succ_self _) (by omega) ⟨_, _, _, _, _, _, _, hS_b⟩ (by omega) (by omega) hTy hFr Fr.rf hW (lv_sub hl [0, 1, 2, 3, 4, 5, 6] rfl)

set_option maxHeartbeats 4000000 in
set_option maxRecDepth 100000 in
theorem s_openOf (l : Launch) (dC : Nat → ClassId) (dI : Nat → Nat → Nat) (cy : Nat → ClassId) (L : List Nat) (kap : Nat → Nat) (pr : Pr) (S : Nat → va_E) (sz : Nat) (b : Nat) (k : Int32) (hTy : Ty cy L kap pr S) (hT_b : TK L kap b 0) : Met l yX0_openOf (wT yX0_openOf cX0_openOf 4 (some .int)) ({ frames := 0, cells := 0, slots := 0, locals := 0 }) (pcN dC dI [.ref b, .int k] sz (va_pl L S) (cyT cy) NLs []) (vp_Si (fun r => True)) 0 0 (fun _ => False) := by
  refine Met.ofW (cc := cX0_openOf) (maxL := 4) (ret := (some .int)) (by decide) rfl ?_
  intro p e s m args below meth c s₁ B hml hv
  obtain ⟨rfl, hsz, hP, hK, hD0, hN, -⟩ := hv
  have hx := B.exec
  have hb := B.bytes
  have hr := B.returns
  have hT : ∀ wd ∈ TB, wd.before [.ref b, .int k].toArray s = true := fun wd h => atoms_spec (ws := wT yX0_openOf cX0_openOf 4 (some .int)) B.pre wd (List.mem_cons_of_mem _ h)
  have hown : s.vm.findClass RX0 = some m.cls := findClass_of_methodNamed B.named
  have hlocks := B.notSynchronized
  subst hsz
  have hW : PW dC dI L (AL L s.heap.size) s.heap S s.heap [] := ⟨hP, pl_self hD0, va_S.rf⟩
  have hFr : Fr kap [] S S := Fr.rf
  have hl := lv_entry ([.ref b, .int k]) (n := 4) (Nat.le_of_ble_eq_true rfl)
  rw [lg_entry_eq]
  generalize (lg_sl ([.ref b, .int k]) ++ List.replicate (4 - (lg_sl ([.ref b, .int k])).length) Slot.unset).toArray = ls at hl ⊢
  have hl : lv_has ls 4 [(0, .ref b), (1, .int k)] := hl
  refine lv_iconst (v := 0) hx hb dX0_openOf_0 (by decide) ?_
  refine lv_istore_n (lv' := [(2, .int 0), (0, .ref b), (1, .int k)]) hx hb dX0_openOf_1 rfl hl (by decide) rfl (fun ls hl => ?_)
  refine lv_iconst (v := 0) hx hb dX0_openOf_2 (by decide) ?_
  refine lv_istore_n (lv' := [(3, .int 0), (2, .int 0), (0, .ref b), (1, .int k)]) hx hb dX0_openOf_3 rfl hl (by decide) rfl (fun ls hl => ?_)
  have loop : ∀ (fuel : Nat) (i : Nat) (fd : Int32) (ls : Array Slot), 41 - i < fuel → (i ≤ 40) → lv_has ls 4 [(3, .int (nI i)), (2, .int fd), (0, .ref b), (1, .int k)] → W p l e (headSpec (wT yX0_openOf cX0_openOf 4 (some .int)) { frames := 0, cells := 0, slots := 0, locals := 0 }).room s m [.ref b, .int k].toArray below meth c s.heap [] 0 0 (MQ below (vp_Si (fun r => True)) [.ref b, .int k].toArray s 0 0 (fun _ => False)) (F0 m 4 ls []) := by
    intro fuel
    induction fuel with
    | zero => intro i fd ls h; exact absurd h (Nat.not_lt_zero _)
    | succ fu4 ih4 =>
      intro i fd ls hm4 hb_i hl
      refine lv_iload_n hx hb dX0_openOf_4 rfl (lv_at hl 0 rfl) ?_
      refine lv_aload_n hx hb dX0_openOf_5 rfl (lv_at hl 2 rfl) ?_
      obtain ⟨x_1, x_2, x_3, x_4, x_5, x_6, x_7, x_8, hS_b, hT_x_1, hT_x_2, hT_x_3, hT_x_4, hT_x_5, hT_x_6, hb_x_7⟩ := hTy.k0 hT_b
      refine pl_get (ci := 0) (v := .int (nI x_7)) (C := RX0) (T := TX0) (N := 8) hx hb hT iX0 hown hK hW hT_b.1 hS_b rfl 6 (by decide) w112 rfl dX0_openOf_6 ?_
      refine lv_icmp_ge (tgt := 40) hx hb dX0_openOf_9 (by decide) (fun c_9 => ?_) (fun c_9 => ?_)
      · have c_9 : x_7 ≤ i := (nI_leI (a := x_7) (b := i) (by omega) (by omega)).mp c_9
        refine lv_iload_n hx hb dX0_openOf_40 rfl (lv_at hl 1 rfl) ?_
        exact W.iret (v := fd) hx hb hr (fun t ht h9 => ⟨fd, rfl, trivial, ht⟩) (fun q h => by cases h) dX0_openOf_41
      · have c_9 : ¬ (x_7 ≤ i) := fun hh9 => c_9 ((nI_leI (a := x_7) (b := i) (by omega) (by omega)).mpr hh9)
        refine lv_aload_n hx hb dX0_openOf_12 rfl (lv_at hl 2 rfl) ?_
        refine pl_get (ci := 0) (v := .ref x_3) (C := RX0) (T := TX0) (N := 8) hx hb hT iX0 hown hK hW hT_b.1 hS_b rfl 2 (by decide) w96 rfl dX0_openOf_13 ?_
        refine lv_iload_n hx hb dX0_openOf_16 rfl (lv_at hl 0 rfl) ?_
        obtain ⟨f_9, hS_x_3, hi_f_9⟩ := hTy.k21 hT_x_3
        refine pl_iald hx hb hK hW hT_x_3.1 hS_x_3 (vp_in_nI (n := i) (N := 40) (by omega) (by omega)) dX0_openOf_17 ?_
        refine lv_topi (fun y_10 ey_10 => ?_)
        obtain ⟨k_11, hb_k_11, hq_k_11⟩ := hi_f_9 (i) (by omega)
        obtain rfl : y_10 = nI k_11 := ey_10.trans (by show f_9 (nI (i)).toNatClampNeg = _; rw [nI_clamp (by omega)]; exact hq_k_11)
        refine lv_iload_n hx hb dX0_openOf_18 rfl (lv_at hl 3 rfl) ?_
        refine lv_icmp_ne (tgt := 34) hx hb dX0_openOf_19 (by decide) (fun c_19 => ?_) (fun c_19 => ?_)
        · refine lv_iinc (v := nI (i + 1)) (lv' := [(3, .int (nI (i + 1))), (2, .int fd), (0, .ref b), (1, .int k)]) hx hb dX0_openOf_34 hl (k := 0) rfl (nI_add (i) 1) (by decide) rfl (fun ls hl => ?_)
          refine lv_goto (tgt := 4) hx hb dX0_openOf_37 (by decide) ?_
          exact ih4 (i + 1) fd ls (by omega) (by omega) (lv_sub hl [0, 1, 2, 3] rfl)
        · refine lv_aload_n hx hb dX0_openOf_22 rfl (lv_at hl 2 rfl) ?_
          refine pl_get (ci := 0) (v := .ref x_5) (C := RX0) (T := TX0) (N := 8) hx hb hT iX0 hown hK hW hT_b.1 hS_b rfl 4 (by decide) w104 rfl dX0_openOf_23 ?_
          refine lv_iload_n hx hb dX0_openOf_26 rfl (lv_at hl 0 rfl) ?_
          obtain ⟨f_12, hS_x_5⟩ := hTy.k23 hT_x_5
          refine pl_zald hx hb hK hW hT_x_5.1 hS_x_5 (vp_in_nI (n := i) (N := 40) (by omega) (by omega)) dX0_openOf_27 ?_
          refine lv_topi (fun y_13 ey_13 => ?_)
          refine lv_if_ne (tgt := 34) hx hb dX0_openOf_28 (by decide) (fun c_28 => ?_) (fun c_28 => ?_)
          · refine lv_iinc (v := nI (i + 1)) (lv' := [(3, .int (nI (i + 1))), (2, .int fd), (0, .ref b), (1, .int k)]) hx hb dX0_openOf_34 hl (k := 0) rfl (nI_add (i) 1) (by decide) rfl (fun ls hl => ?_)
            refine lv_goto (tgt := 4) hx hb dX0_openOf_37 (by decide) ?_
            exact ih4 (i + 1) fd ls (by omega) (by omega) (lv_sub hl [0, 1, 2, 3] rfl)
          · obtain ⟨u_14, eu_14⟩ : ∃ y : Int32, y = fd + Int32.ofInt (1) := ⟨_, rfl⟩
            refine lv_iinc (v := u_14) (lv' := [(2, .int u_14), (3, .int (nI i)), (0, .ref b), (1, .int k)]) hx hb dX0_openOf_31 hl (k := 1) rfl eu_14.symm (by decide) rfl (fun ls hl => ?_)
            refine lv_iinc (v := nI (i + 1)) (lv' := [(3, .int (nI (i + 1))), (2, .int u_14), (0, .ref b), (1, .int k)]) hx hb dX0_openOf_34 hl (k := 1) rfl (nI_add (i) 1) (by decide) rfl (fun ls hl => ?_)
            refine lv_goto (tgt := 4) hx hb dX0_openOf_37 (by decide) ?_
            exact ih4 (i + 1) u_14 ls (by omega) (by omega) (lv_sub hl [0, 1, 2, 3] rfl)
  exact loop ((41 - 0) + 1) 0 0 ls (Nat.lt_succ_self _) (by omega) (lv_sub hl [0, 1, 2, 3] rfl)

set_option maxHeartbeats 4000000 in
set_option maxRecDepth 100000 in
theorem s_keptTrades (l : Launch) (dC : Nat → ClassId) (dI : Nat → Nat → Nat) (cy : Nat → ClassId) (L : List Nat) (kap : Nat → Nat) (pr : Pr) (S : Nat → va_E) (sz : Nat) (b : Nat) (hTy : Ty cy L kap pr S) (hT_b : TK L kap b 0) : Met l yX0_keptTrades (wT yX0_keptTrades cX0_keptTrades 3 (some .int)) ({ frames := 0, cells := 0, slots := 0, locals := 0 }) (pcN dC dI [.ref b] sz (va_pl L S) (cyT cy) NLs []) (vp_Si (fun r => True)) 0 0 (fun _ => False) := by
  refine Met.ofW (cc := cX0_keptTrades) (maxL := 3) (ret := (some .int)) (by decide) rfl ?_
  intro p e s m args below meth c s₁ B hml hv
  obtain ⟨rfl, hsz, hP, hK, hD0, hN, -⟩ := hv
  have hx := B.exec
  have hb := B.bytes
  have hr := B.returns
  have hT : ∀ wd ∈ TB, wd.before [.ref b].toArray s = true := fun wd h => atoms_spec (ws := wT yX0_keptTrades cX0_keptTrades 3 (some .int)) B.pre wd (List.mem_cons_of_mem _ h)
  have hown : s.vm.findClass RX0 = some m.cls := findClass_of_methodNamed B.named
  have hlocks := B.notSynchronized
  subst hsz
  have hW : PW dC dI L (AL L s.heap.size) s.heap S s.heap [] := ⟨hP, pl_self hD0, va_S.rf⟩
  have hFr : Fr kap [] S S := Fr.rf
  have hl := lv_entry ([.ref b]) (n := 3) (Nat.le_of_ble_eq_true rfl)
  rw [lg_entry_eq]
  generalize (lg_sl ([.ref b]) ++ List.replicate (3 - (lg_sl ([.ref b])).length) Slot.unset).toArray = ls at hl ⊢
  have hl : lv_has ls 3 [(0, .ref b)] := hl
  refine lv_iconst (v := 0) hx hb dX0_keptTrades_0 (by decide) ?_
  refine lv_istore_n (lv' := [(1, .int 0), (0, .ref b)]) hx hb dX0_keptTrades_1 rfl hl (by decide) rfl (fun ls hl => ?_)
  refine lv_iconst (v := 0) hx hb dX0_keptTrades_2 (by decide) ?_
  refine lv_istore_n (lv' := [(2, .int 0), (1, .int 0), (0, .ref b)]) hx hb dX0_keptTrades_3 rfl hl (by decide) rfl (fun ls hl => ?_)
  have loop : ∀ (fuel : Nat) (i : Nat) (fd : Int32) (ls : Array Slot), 41 - i < fuel → (i ≤ 40) → lv_has ls 3 [(2, .int (nI i)), (1, .int fd), (0, .ref b)] → W p l e (headSpec (wT yX0_keptTrades cX0_keptTrades 3 (some .int)) { frames := 0, cells := 0, slots := 0, locals := 0 }).room s m [.ref b].toArray below meth c s.heap [] 0 0 (MQ below (vp_Si (fun r => True)) [.ref b].toArray s 0 0 (fun _ => False)) (F0 m 4 ls []) := by
    intro fuel
    induction fuel with
    | zero => intro i fd ls h; exact absurd h (Nat.not_lt_zero _)
    | succ fu4 ih4 =>
      intro i fd ls hm4 hb_i hl
      refine lv_iload_n hx hb dX0_keptTrades_4 rfl (lv_at hl 0 rfl) ?_
      refine lv_aload_n hx hb dX0_keptTrades_5 rfl (lv_at hl 2 rfl) ?_
      obtain ⟨x_1, x_2, x_3, x_4, x_5, x_6, x_7, x_8, hS_b, hT_x_1, hT_x_2, hT_x_3, hT_x_4, hT_x_5, hT_x_6, hb_x_7⟩ := hTy.k0 hT_b
      refine pl_get (ci := 0) (v := .int (nI x_7)) (C := RX0) (T := TX0) (N := 8) hx hb hT iX0 hown hK hW hT_b.1 hS_b rfl 6 (by decide) w112 rfl dX0_keptTrades_6 ?_
      refine lv_icmp_ge (tgt := 30) hx hb dX0_keptTrades_9 (by decide) (fun c_9 => ?_) (fun c_9 => ?_)
      · have c_9 : x_7 ≤ i := (nI_leI (a := x_7) (b := i) (by omega) (by omega)).mp c_9
        refine lv_iload_n hx hb dX0_keptTrades_30 rfl (lv_at hl 1 rfl) ?_
        exact W.iret (v := fd) hx hb hr (fun t ht h9 => ⟨fd, rfl, trivial, ht⟩) (fun q h => by cases h) dX0_keptTrades_31
      · have c_9 : ¬ (x_7 ≤ i) := fun hh9 => c_9 ((nI_leI (a := x_7) (b := i) (by omega) (by omega)).mpr hh9)
        refine lv_aload_n hx hb dX0_keptTrades_12 rfl (lv_at hl 2 rfl) ?_
        refine pl_get (ci := 0) (v := .ref x_5) (C := RX0) (T := TX0) (N := 8) hx hb hT iX0 hown hK hW hT_b.1 hS_b rfl 4 (by decide) w104 rfl dX0_keptTrades_13 ?_
        refine lv_iload_n hx hb dX0_keptTrades_16 rfl (lv_at hl 0 rfl) ?_
        obtain ⟨f_9, hS_x_5⟩ := hTy.k23 hT_x_5
        refine pl_zald hx hb hK hW hT_x_5.1 hS_x_5 (vp_in_nI (n := i) (N := 40) (by omega) (by omega)) dX0_keptTrades_17 ?_
        refine lv_topi (fun y_10 ey_10 => ?_)
        refine lv_if_eq (tgt := 24) hx hb dX0_keptTrades_18 (by decide) (fun c_18 => ?_) (fun c_18 => ?_)
        · refine lv_iinc (v := nI (i + 1)) (lv' := [(2, .int (nI (i + 1))), (1, .int fd), (0, .ref b)]) hx hb dX0_keptTrades_24 hl (k := 0) rfl (nI_add (i) 1) (by decide) rfl (fun ls hl => ?_)
          refine lv_goto (tgt := 4) hx hb dX0_keptTrades_27 (by decide) ?_
          exact ih4 (i + 1) fd ls (by omega) (by omega) (lv_sub hl [0, 1, 2] rfl)
        · obtain ⟨u_11, eu_11⟩ : ∃ y : Int32, y = fd + Int32.ofInt (1) := ⟨_, rfl⟩
          refine lv_iinc (v := u_11) (lv' := [(1, .int u_11), (2, .int (nI i)), (0, .ref b)]) hx hb dX0_keptTrades_21 hl (k := 1) rfl eu_11.symm (by decide) rfl (fun ls hl => ?_)
          refine lv_iinc (v := nI (i + 1)) (lv' := [(2, .int (nI (i + 1))), (1, .int u_11), (0, .ref b)]) hx hb dX0_keptTrades_24 hl (k := 1) rfl (nI_add (i) 1) (by decide) rfl (fun ls hl => ?_)
          refine lv_goto (tgt := 4) hx hb dX0_keptTrades_27 (by decide) ?_
          exact ih4 (i + 1) u_11 ls (by omega) (by omega) (lv_sub hl [0, 1, 2] rfl)
  exact loop ((41 - 0) + 1) 0 0 ls (Nat.lt_succ_self _) (by omega) (lv_sub hl [0, 1, 2] rfl)

set_option maxHeartbeats 4000000 in
set_option maxRecDepth 100000 in
theorem s_keptOf (l : Launch) (dC : Nat → ClassId) (dI : Nat → Nat → Nat) (cy : Nat → ClassId) (L : List Nat) (kap : Nat → Nat) (pr : Pr) (S : Nat → va_E) (sz : Nat) (b : Nat) (k : Int32) (hTy : Ty cy L kap pr S) (hT_b : TK L kap b 0) : Met l yX0_keptOf (wT yX0_keptOf cX0_keptOf 5 (some .long)) ({ frames := 0, cells := 0, slots := 0, locals := 0 }) (pcN dC dI [.ref b, .int k] sz (va_pl L S) (cyT cy) NLs []) (vp_Sl (fun r => True)) 0 0 (fun _ => False) := by
  refine Met.ofW (cc := cX0_keptOf) (maxL := 5) (ret := (some .long)) (by decide) rfl ?_
  intro p e s m args below meth c s₁ B hml hv
  obtain ⟨rfl, hsz, hP, hK, hD0, hN, -⟩ := hv
  have hx := B.exec
  have hb := B.bytes
  have hr := B.returns
  have hT : ∀ wd ∈ TB, wd.before [.ref b, .int k].toArray s = true := fun wd h => atoms_spec (ws := wT yX0_keptOf cX0_keptOf 5 (some .long)) B.pre wd (List.mem_cons_of_mem _ h)
  have hown : s.vm.findClass RX0 = some m.cls := findClass_of_methodNamed B.named
  have hlocks := B.notSynchronized
  subst hsz
  have hW : PW dC dI L (AL L s.heap.size) s.heap S s.heap [] := ⟨hP, pl_self hD0, va_S.rf⟩
  have hFr : Fr kap [] S S := Fr.rf
  have hl := lv_entry ([.ref b, .int k]) (n := 5) (Nat.le_of_ble_eq_true rfl)
  rw [lg_entry_eq]
  generalize (lg_sl ([.ref b, .int k]) ++ List.replicate (5 - (lg_sl ([.ref b, .int k])).length) Slot.unset).toArray = ls at hl ⊢
  have hl : lv_has ls 5 [(0, .ref b), (1, .int k)] := hl
  refine lv_lconst (v := 0) hx hb dX0_keptOf_0 (by decide) ?_
  refine lv_lstore_n (lv' := [(2, .long 0), (0, .ref b), (1, .int k)]) hx hb dX0_keptOf_1 rfl hl (by decide) rfl (fun ls hl => ?_)
  refine lv_iconst (v := 0) hx hb dX0_keptOf_2 (by decide) ?_
  refine lv_istore (lv' := [(4, .int 0), (2, .long 0), (0, .ref b), (1, .int k)]) hx hb dX0_keptOf_3 hl (by decide) rfl (fun ls hl => ?_)
  have loop : ∀ (fuel : Nat) (i : Nat) (sm : Int64) (ls : Array Slot), 41 - i < fuel → (i ≤ 40) → lv_has ls 5 [(4, .int (nI i)), (2, .long sm), (0, .ref b), (1, .int k)] → W p l e (headSpec (wT yX0_keptOf cX0_keptOf 5 (some .long)) { frames := 0, cells := 0, slots := 0, locals := 0 }).room s m [.ref b, .int k].toArray below meth c s.heap [] 0 0 (MQ below (vp_Sl (fun r => True)) [.ref b, .int k].toArray s 0 0 (fun _ => False)) (F0 m 5 ls []) := by
    intro fuel
    induction fuel with
    | zero => intro i sm ls h; exact absurd h (Nat.not_lt_zero _)
    | succ fu5 ih5 =>
      intro i sm ls hm5 hb_i hl
      refine lv_iload hx hb dX0_keptOf_5 (lv_at hl 0 rfl) ?_
      refine lv_aload_n hx hb dX0_keptOf_7 rfl (lv_at hl 2 rfl) ?_
      obtain ⟨x_1, x_2, x_3, x_4, x_5, x_6, x_7, x_8, hS_b, hT_x_1, hT_x_2, hT_x_3, hT_x_4, hT_x_5, hT_x_6, hb_x_7⟩ := hTy.k0 hT_b
      refine pl_get (ci := 0) (v := .int (nI x_7)) (C := RX0) (T := TX0) (N := 8) hx hb hT iX0 hown hK hW hT_b.1 hS_b rfl 6 (by decide) w112 rfl dX0_keptOf_8 ?_
      refine lv_icmp_ge (tgt := 51) hx hb dX0_keptOf_11 (by decide) (fun c_11 => ?_) (fun c_11 => ?_)
      · have c_11 : x_7 ≤ i := (nI_leI (a := x_7) (b := i) (by omega) (by omega)).mp c_11
        refine lv_lload_n hx hb dX0_keptOf_51 rfl (lv_at hl 1 rfl) ?_
        exact W.lret (v := sm) hx hb hr (fun t ht h9 => ⟨sm, rfl, trivial, ht⟩) (fun q h => by cases h) dX0_keptOf_52
      · have c_11 : ¬ (x_7 ≤ i) := fun hh9 => c_11 ((nI_leI (a := x_7) (b := i) (by omega) (by omega)).mpr hh9)
        refine lv_aload_n hx hb dX0_keptOf_14 rfl (lv_at hl 2 rfl) ?_
        refine pl_get (ci := 0) (v := .ref x_3) (C := RX0) (T := TX0) (N := 8) hx hb hT iX0 hown hK hW hT_b.1 hS_b rfl 2 (by decide) w96 rfl dX0_keptOf_15 ?_
        refine lv_iload hx hb dX0_keptOf_18 (lv_at hl 0 rfl) ?_
        obtain ⟨f_9, hS_x_3, hi_f_9⟩ := hTy.k21 hT_x_3
        refine pl_iald hx hb hK hW hT_x_3.1 hS_x_3 (vp_in_nI (n := i) (N := 40) (by omega) (by omega)) dX0_keptOf_20 ?_
        refine lv_topi (fun y_10 ey_10 => ?_)
        obtain ⟨k_11, hb_k_11, hq_k_11⟩ := hi_f_9 (i) (by omega)
        obtain rfl : y_10 = nI k_11 := ey_10.trans (by show f_9 (nI (i)).toNatClampNeg = _; rw [nI_clamp (by omega)]; exact hq_k_11)
        refine lv_iload_n hx hb dX0_keptOf_21 rfl (lv_at hl 3 rfl) ?_
        refine lv_icmp_ne (tgt := 45) hx hb dX0_keptOf_22 (by decide) (fun c_22 => ?_) (fun c_22 => ?_)
        · refine lv_iinc (v := nI (i + 1)) (lv' := [(4, .int (nI (i + 1))), (2, .long sm), (0, .ref b), (1, .int k)]) hx hb dX0_keptOf_45 hl (k := 0) rfl (nI_add (i) 1) (by decide) rfl (fun ls hl => ?_)
          refine lv_goto (tgt := 5) hx hb dX0_keptOf_48 (by decide) ?_
          exact ih5 (i + 1) sm ls (by omega) (by omega) (lv_sub hl [0, 1, 2, 3] rfl)
        · refine lv_aload_n hx hb dX0_keptOf_25 rfl (lv_at hl 2 rfl) ?_
          refine pl_get (ci := 0) (v := .ref x_5) (C := RX0) (T := TX0) (N := 8) hx hb hT iX0 hown hK hW hT_b.1 hS_b rfl 4 (by decide) w104 rfl dX0_keptOf_26 ?_
          refine lv_iload hx hb dX0_keptOf_29 (lv_at hl 0 rfl) ?_
          obtain ⟨f_12, hS_x_5⟩ := hTy.k23 hT_x_5
          refine pl_zald hx hb hK hW hT_x_5.1 hS_x_5 (vp_in_nI (n := i) (N := 40) (by omega) (by omega)) dX0_keptOf_31 ?_
          refine lv_topi (fun y_13 ey_13 => ?_)
          refine lv_if_eq (tgt := 45) hx hb dX0_keptOf_32 (by decide) (fun c_32 => ?_) (fun c_32 => ?_)
          · refine lv_iinc (v := nI (i + 1)) (lv' := [(4, .int (nI (i + 1))), (2, .long sm), (0, .ref b), (1, .int k)]) hx hb dX0_keptOf_45 hl (k := 0) rfl (nI_add (i) 1) (by decide) rfl (fun ls hl => ?_)
            refine lv_goto (tgt := 5) hx hb dX0_keptOf_48 (by decide) ?_
            exact ih5 (i + 1) sm ls (by omega) (by omega) (lv_sub hl [0, 1, 2, 3] rfl)
          · refine lv_lload_n hx hb dX0_keptOf_35 rfl (lv_at hl 1 rfl) ?_
            refine lv_aload_n hx hb dX0_keptOf_36 rfl (lv_at hl 2 rfl) ?_
            refine pl_get (ci := 0) (v := .ref x_4) (C := RX0) (T := TX0) (N := 8) hx hb hT iX0 hown hK hW hT_b.1 hS_b rfl 3 (by decide) w100 rfl dX0_keptOf_37 ?_
            refine lv_iload hx hb dX0_keptOf_40 (lv_at hl 0 rfl) ?_
            obtain ⟨f_14, hS_x_4⟩ := hTy.k22 hT_x_4
            refine pl_lald hx hb hK hW hT_x_4.1 hS_x_4 (vp_in_nI (n := i) (N := 40) (by omega) (by omega)) dX0_keptOf_42 ?_
            refine lv_topl (fun y_15 ey_15 => ?_)
            refine lv_ladd hx hb dX0_keptOf_43 ?_
            refine lv_topl (fun z_16 ez_16 => ?_)
            refine lv_lstore_n (lv' := [(2, .long z_16), (4, .int (nI i)), (0, .ref b), (1, .int k)]) hx hb dX0_keptOf_44 rfl hl (by decide) rfl (fun ls hl => ?_)
            refine lv_iinc (v := nI (i + 1)) (lv' := [(4, .int (nI (i + 1))), (2, .long z_16), (0, .ref b), (1, .int k)]) hx hb dX0_keptOf_45 hl (k := 1) rfl (nI_add (i) 1) (by decide) rfl (fun ls hl => ?_)
            refine lv_goto (tgt := 5) hx hb dX0_keptOf_48 (by decide) ?_
            exact ih5 (i + 1) z_16 ls (by omega) (by omega) (lv_sub hl [0, 1, 2, 3] rfl)
  exact loop ((41 - 0) + 1) 0 0 ls (Nat.lt_succ_self _) (by omega) (lv_sub hl [0, 1, 2, 3] rfl)

set_option maxHeartbeats 4000000 in
set_option maxRecDepth 100000 in
theorem s_allFrom (l : Launch) (dC : Nat → ClassId) (dI : Nat → Nat → Nat) (cy : Nat → ClassId) (L : List Nat) (kap : Nat → Nat) (pr : Pr) (S : Nat → va_E) (sz : Nat) (b : Nat) (k : Int32) (k2 : Int32) (hTy : Ty cy L kap pr S) (hT_b : TK L kap b 0) : Met l yX0_allFrom (wT yX0_allFrom cX0_allFrom 6 (some .long)) ({ frames := 0, cells := 0, slots := 0, locals := 0 }) (pcN dC dI [.ref b, .int k, .int k2] sz (va_pl L S) (cyT cy) NLs []) (vp_Sl (fun r => True)) 0 0 (fun _ => False) := by
  refine Met.ofW (cc := cX0_allFrom) (maxL := 6) (ret := (some .long)) (by decide) rfl ?_
  intro p e s m args below meth c s₁ B hml hv
  obtain ⟨rfl, hsz, hP, hK, hD0, hN, -⟩ := hv
  have hx := B.exec
  have hb := B.bytes
  have hr := B.returns
  have hT : ∀ wd ∈ TB, wd.before [.ref b, .int k, .int k2].toArray s = true := fun wd h => atoms_spec (ws := wT yX0_allFrom cX0_allFrom 6 (some .long)) B.pre wd (List.mem_cons_of_mem _ h)
  have hown : s.vm.findClass RX0 = some m.cls := findClass_of_methodNamed B.named
  have hlocks := B.notSynchronized
  subst hsz
  have hW : PW dC dI L (AL L s.heap.size) s.heap S s.heap [] := ⟨hP, pl_self hD0, va_S.rf⟩
  have hFr : Fr kap [] S S := Fr.rf
  have hl := lv_entry ([.ref b, .int k, .int k2]) (n := 6) (Nat.le_of_ble_eq_true rfl)
  rw [lg_entry_eq]
  generalize (lg_sl ([.ref b, .int k, .int k2]) ++ List.replicate (6 - (lg_sl ([.ref b, .int k, .int k2])).length) Slot.unset).toArray = ls at hl ⊢
  have hl : lv_has ls 6 [(0, .ref b), (1, .int k), (2, .int k2)] := hl
  refine lv_lconst (v := 0) hx hb dX0_allFrom_0 (by decide) ?_
  refine lv_lstore_n (lv' := [(3, .long 0), (0, .ref b), (1, .int k), (2, .int k2)]) hx hb dX0_allFrom_1 rfl hl (by decide) rfl (fun ls hl => ?_)
  refine lv_iconst (v := 0) hx hb dX0_allFrom_2 (by decide) ?_
  refine lv_istore (lv' := [(5, .int 0), (3, .long 0), (0, .ref b), (1, .int k), (2, .int k2)]) hx hb dX0_allFrom_3 hl (by decide) rfl (fun ls hl => ?_)
  have loop : ∀ (fuel : Nat) (i : Nat) (sm : Int64) (ls : Array Slot), 41 - i < fuel → (i ≤ 40) → lv_has ls 6 [(5, .int (nI i)), (3, .long sm), (0, .ref b), (1, .int k), (2, .int k2)] → W p l e (headSpec (wT yX0_allFrom cX0_allFrom 6 (some .long)) { frames := 0, cells := 0, slots := 0, locals := 0 }).room s m [.ref b, .int k, .int k2].toArray below meth c s.heap [] 0 0 (MQ below (vp_Sl (fun r => True)) [.ref b, .int k, .int k2].toArray s 0 0 (fun _ => False)) (F0 m 5 ls []) := by
    intro fuel
    induction fuel with
    | zero => intro i sm ls h; exact absurd h (Nat.not_lt_zero _)
    | succ fu5 ih5 =>
      intro i sm ls hm5 hb_i hl
      refine lv_iload hx hb dX0_allFrom_5 (lv_at hl 0 rfl) ?_
      refine lv_aload_n hx hb dX0_allFrom_7 rfl (lv_at hl 2 rfl) ?_
      obtain ⟨x_1, x_2, x_3, x_4, x_5, x_6, x_7, x_8, hS_b, hT_x_1, hT_x_2, hT_x_3, hT_x_4, hT_x_5, hT_x_6, hb_x_7⟩ := hTy.k0 hT_b
      refine pl_get (ci := 0) (v := .int (nI x_7)) (C := RX0) (T := TX0) (N := 8) hx hb hT iX0 hown hK hW hT_b.1 hS_b rfl 6 (by decide) w112 rfl dX0_allFrom_8 ?_
      refine lv_icmp_ge (tgt := 52) hx hb dX0_allFrom_11 (by decide) (fun c_11 => ?_) (fun c_11 => ?_)
      · have c_11 : x_7 ≤ i := (nI_leI (a := x_7) (b := i) (by omega) (by omega)).mp c_11
        refine lv_lload_n hx hb dX0_allFrom_52 rfl (lv_at hl 1 rfl) ?_
        exact W.lret (v := sm) hx hb hr (fun t ht h9 => ⟨sm, rfl, trivial, ht⟩) (fun q h => by cases h) dX0_allFrom_53
      · have c_11 : ¬ (x_7 ≤ i) := fun hh9 => c_11 ((nI_leI (a := x_7) (b := i) (by omega) (by omega)).mpr hh9)
        refine lv_aload_n hx hb dX0_allFrom_14 rfl (lv_at hl 2 rfl) ?_
        refine pl_get (ci := 0) (v := .ref x_3) (C := RX0) (T := TX0) (N := 8) hx hb hT iX0 hown hK hW hT_b.1 hS_b rfl 2 (by decide) w96 rfl dX0_allFrom_15 ?_
        refine lv_iload hx hb dX0_allFrom_18 (lv_at hl 0 rfl) ?_
        obtain ⟨f_9, hS_x_3, hi_f_9⟩ := hTy.k21 hT_x_3
        refine pl_iald hx hb hK hW hT_x_3.1 hS_x_3 (vp_in_nI (n := i) (N := 40) (by omega) (by omega)) dX0_allFrom_20 ?_
        refine lv_topi (fun y_10 ey_10 => ?_)
        obtain ⟨k_11, hb_k_11, hq_k_11⟩ := hi_f_9 (i) (by omega)
        obtain rfl : y_10 = nI k_11 := ey_10.trans (by show f_9 (nI (i)).toNatClampNeg = _; rw [nI_clamp (by omega)]; exact hq_k_11)
        refine lv_iload_n hx hb dX0_allFrom_21 rfl (lv_at hl 4 rfl) ?_
        refine lv_icmp_ne (tgt := 46) hx hb dX0_allFrom_22 (by decide) (fun c_22 => ?_) (fun c_22 => ?_)
        · refine lv_iinc (v := nI (i + 1)) (lv' := [(5, .int (nI (i + 1))), (3, .long sm), (0, .ref b), (1, .int k), (2, .int k2)]) hx hb dX0_allFrom_46 hl (k := 0) rfl (nI_add (i) 1) (by decide) rfl (fun ls hl => ?_)
          refine lv_goto (tgt := 5) hx hb dX0_allFrom_49 (by decide) ?_
          exact ih5 (i + 1) sm ls (by omega) (by omega) (lv_sub hl [0, 1, 2, 3, 4] rfl)
        · refine lv_aload_n hx hb dX0_allFrom_25 rfl (lv_at hl 2 rfl) ?_
          refine pl_get (ci := 0) (v := .ref x_1) (C := RX0) (T := TX0) (N := 8) hx hb hT iX0 hown hK hW hT_b.1 hS_b rfl 0 (by decide) w88 rfl dX0_allFrom_26 ?_
          refine lv_iload hx hb dX0_allFrom_29 (lv_at hl 0 rfl) ?_
          obtain ⟨f_12, hS_x_1, hi_f_12⟩ := hTy.k20 hT_x_1
          refine pl_iald hx hb hK hW hT_x_1.1 hS_x_1 (vp_in_nI (n := i) (N := 40) (by omega) (by omega)) dX0_allFrom_31 ?_
          refine lv_topi (fun y_13 ey_13 => ?_)
          obtain ⟨k_14, hb_k_14, hq_k_14⟩ := hi_f_12 (i) (by omega)
          obtain rfl : y_13 = nI k_14 := ey_13.trans (by show f_12 (nI (i)).toNatClampNeg = _; rw [nI_clamp (by omega)]; exact hq_k_14)
          refine lv_iload_n hx hb dX0_allFrom_32 rfl (lv_at hl 3 rfl) ?_
          refine lv_icmp_ne (tgt := 46) hx hb dX0_allFrom_33 (by decide) (fun c_33 => ?_) (fun c_33 => ?_)
          · refine lv_iinc (v := nI (i + 1)) (lv' := [(5, .int (nI (i + 1))), (3, .long sm), (0, .ref b), (1, .int k), (2, .int k2)]) hx hb dX0_allFrom_46 hl (k := 0) rfl (nI_add (i) 1) (by decide) rfl (fun ls hl => ?_)
            refine lv_goto (tgt := 5) hx hb dX0_allFrom_49 (by decide) ?_
            exact ih5 (i + 1) sm ls (by omega) (by omega) (lv_sub hl [0, 1, 2, 3, 4] rfl)
          · refine lv_lload_n hx hb dX0_allFrom_36 rfl (lv_at hl 1 rfl) ?_
            refine lv_aload_n hx hb dX0_allFrom_37 rfl (lv_at hl 2 rfl) ?_
            refine pl_get (ci := 0) (v := .ref x_4) (C := RX0) (T := TX0) (N := 8) hx hb hT iX0 hown hK hW hT_b.1 hS_b rfl 3 (by decide) w100 rfl dX0_allFrom_38 ?_
            refine lv_iload hx hb dX0_allFrom_41 (lv_at hl 0 rfl) ?_
            obtain ⟨f_15, hS_x_4⟩ := hTy.k22 hT_x_4
            refine pl_lald hx hb hK hW hT_x_4.1 hS_x_4 (vp_in_nI (n := i) (N := 40) (by omega) (by omega)) dX0_allFrom_43 ?_
            refine lv_topl (fun y_16 ey_16 => ?_)
            refine lv_ladd hx hb dX0_allFrom_44 ?_
            refine lv_topl (fun z_17 ez_17 => ?_)
            refine lv_lstore_n (lv' := [(3, .long z_17), (5, .int (nI i)), (0, .ref b), (1, .int k), (2, .int k2)]) hx hb dX0_allFrom_45 rfl hl (by decide) rfl (fun ls hl => ?_)
            refine lv_iinc (v := nI (i + 1)) (lv' := [(5, .int (nI (i + 1))), (3, .long z_17), (0, .ref b), (1, .int k), (2, .int k2)]) hx hb dX0_allFrom_46 hl (k := 1) rfl (nI_add (i) 1) (by decide) rfl (fun ls hl => ?_)
            refine lv_goto (tgt := 5) hx hb dX0_allFrom_49 (by decide) ?_
            exact ih5 (i + 1) z_17 ls (by omega) (by omega) (lv_sub hl [0, 1, 2, 3, 4] rfl)
  exact loop ((41 - 0) + 1) 0 0 ls (Nat.lt_succ_self _) (by omega) (lv_sub hl [0, 1, 2, 3, 4] rfl)

set_option maxHeartbeats 4000000 in
set_option maxRecDepth 100000 in
theorem s_allTo (l : Launch) (dC : Nat → ClassId) (dI : Nat → Nat → Nat) (cy : Nat → ClassId) (L : List Nat) (kap : Nat → Nat) (pr : Pr) (S : Nat → va_E) (sz : Nat) (b : Nat) (k : Int32) (k2 : Int32) (hTy : Ty cy L kap pr S) (hT_b : TK L kap b 0) : Met l yX0_allTo (wT yX0_allTo cX0_allTo 6 (some .long)) ({ frames := 0, cells := 0, slots := 0, locals := 0 }) (pcN dC dI [.ref b, .int k, .int k2] sz (va_pl L S) (cyT cy) NLs []) (vp_Sl (fun r => True)) 0 0 (fun _ => False) := by
  refine Met.ofW (cc := cX0_allTo) (maxL := 6) (ret := (some .long)) (by decide) rfl ?_
  intro p e s m args below meth c s₁ B hml hv
  obtain ⟨rfl, hsz, hP, hK, hD0, hN, -⟩ := hv
  have hx := B.exec
  have hb := B.bytes
  have hr := B.returns
  have hT : ∀ wd ∈ TB, wd.before [.ref b, .int k, .int k2].toArray s = true := fun wd h => atoms_spec (ws := wT yX0_allTo cX0_allTo 6 (some .long)) B.pre wd (List.mem_cons_of_mem _ h)
  have hown : s.vm.findClass RX0 = some m.cls := findClass_of_methodNamed B.named
  have hlocks := B.notSynchronized
  subst hsz
  have hW : PW dC dI L (AL L s.heap.size) s.heap S s.heap [] := ⟨hP, pl_self hD0, va_S.rf⟩
  have hFr : Fr kap [] S S := Fr.rf
  have hl := lv_entry ([.ref b, .int k, .int k2]) (n := 6) (Nat.le_of_ble_eq_true rfl)
  rw [lg_entry_eq]
  generalize (lg_sl ([.ref b, .int k, .int k2]) ++ List.replicate (6 - (lg_sl ([.ref b, .int k, .int k2])).length) Slot.unset).toArray = ls at hl ⊢
  have hl : lv_has ls 6 [(0, .ref b), (1, .int k), (2, .int k2)] := hl
  refine lv_lconst (v := 0) hx hb dX0_allTo_0 (by decide) ?_
  refine lv_lstore_n (lv' := [(3, .long 0), (0, .ref b), (1, .int k), (2, .int k2)]) hx hb dX0_allTo_1 rfl hl (by decide) rfl (fun ls hl => ?_)
  refine lv_iconst (v := 0) hx hb dX0_allTo_2 (by decide) ?_
  refine lv_istore (lv' := [(5, .int 0), (3, .long 0), (0, .ref b), (1, .int k), (2, .int k2)]) hx hb dX0_allTo_3 hl (by decide) rfl (fun ls hl => ?_)
  have loop : ∀ (fuel : Nat) (i : Nat) (sm : Int64) (ls : Array Slot), 41 - i < fuel → (i ≤ 40) → lv_has ls 6 [(5, .int (nI i)), (3, .long sm), (0, .ref b), (1, .int k), (2, .int k2)] → W p l e (headSpec (wT yX0_allTo cX0_allTo 6 (some .long)) { frames := 0, cells := 0, slots := 0, locals := 0 }).room s m [.ref b, .int k, .int k2].toArray below meth c s.heap [] 0 0 (MQ below (vp_Sl (fun r => True)) [.ref b, .int k, .int k2].toArray s 0 0 (fun _ => False)) (F0 m 5 ls []) := by
    intro fuel
    induction fuel with
    | zero => intro i sm ls h; exact absurd h (Nat.not_lt_zero _)
    | succ fu5 ih5 =>
      intro i sm ls hm5 hb_i hl
      refine lv_iload hx hb dX0_allTo_5 (lv_at hl 0 rfl) ?_
      refine lv_aload_n hx hb dX0_allTo_7 rfl (lv_at hl 2 rfl) ?_
      obtain ⟨x_1, x_2, x_3, x_4, x_5, x_6, x_7, x_8, hS_b, hT_x_1, hT_x_2, hT_x_3, hT_x_4, hT_x_5, hT_x_6, hb_x_7⟩ := hTy.k0 hT_b
      refine pl_get (ci := 0) (v := .int (nI x_7)) (C := RX0) (T := TX0) (N := 8) hx hb hT iX0 hown hK hW hT_b.1 hS_b rfl 6 (by decide) w112 rfl dX0_allTo_8 ?_
      refine lv_icmp_ge (tgt := 52) hx hb dX0_allTo_11 (by decide) (fun c_11 => ?_) (fun c_11 => ?_)
      · have c_11 : x_7 ≤ i := (nI_leI (a := x_7) (b := i) (by omega) (by omega)).mp c_11
        refine lv_lload_n hx hb dX0_allTo_52 rfl (lv_at hl 1 rfl) ?_
        exact W.lret (v := sm) hx hb hr (fun t ht h9 => ⟨sm, rfl, trivial, ht⟩) (fun q h => by cases h) dX0_allTo_53
      · have c_11 : ¬ (x_7 ≤ i) := fun hh9 => c_11 ((nI_leI (a := x_7) (b := i) (by omega) (by omega)).mpr hh9)
        refine lv_aload_n hx hb dX0_allTo_14 rfl (lv_at hl 2 rfl) ?_
        refine pl_get (ci := 0) (v := .ref x_3) (C := RX0) (T := TX0) (N := 8) hx hb hT iX0 hown hK hW hT_b.1 hS_b rfl 2 (by decide) w96 rfl dX0_allTo_15 ?_
        refine lv_iload hx hb dX0_allTo_18 (lv_at hl 0 rfl) ?_
        obtain ⟨f_9, hS_x_3, hi_f_9⟩ := hTy.k21 hT_x_3
        refine pl_iald hx hb hK hW hT_x_3.1 hS_x_3 (vp_in_nI (n := i) (N := 40) (by omega) (by omega)) dX0_allTo_20 ?_
        refine lv_topi (fun y_10 ey_10 => ?_)
        obtain ⟨k_11, hb_k_11, hq_k_11⟩ := hi_f_9 (i) (by omega)
        obtain rfl : y_10 = nI k_11 := ey_10.trans (by show f_9 (nI (i)).toNatClampNeg = _; rw [nI_clamp (by omega)]; exact hq_k_11)
        refine lv_iload_n hx hb dX0_allTo_21 rfl (lv_at hl 4 rfl) ?_
        refine lv_icmp_ne (tgt := 46) hx hb dX0_allTo_22 (by decide) (fun c_22 => ?_) (fun c_22 => ?_)
        · refine lv_iinc (v := nI (i + 1)) (lv' := [(5, .int (nI (i + 1))), (3, .long sm), (0, .ref b), (1, .int k), (2, .int k2)]) hx hb dX0_allTo_46 hl (k := 0) rfl (nI_add (i) 1) (by decide) rfl (fun ls hl => ?_)
          refine lv_goto (tgt := 5) hx hb dX0_allTo_49 (by decide) ?_
          exact ih5 (i + 1) sm ls (by omega) (by omega) (lv_sub hl [0, 1, 2, 3, 4] rfl)
        · refine lv_aload_n hx hb dX0_allTo_25 rfl (lv_at hl 2 rfl) ?_
          refine pl_get (ci := 0) (v := .ref x_2) (C := RX0) (T := TX0) (N := 8) hx hb hT iX0 hown hK hW hT_b.1 hS_b rfl 1 (by decide) w92 rfl dX0_allTo_26 ?_
          refine lv_iload hx hb dX0_allTo_29 (lv_at hl 0 rfl) ?_
          obtain ⟨f_12, hS_x_2, hi_f_12⟩ := hTy.k20 hT_x_2
          refine pl_iald hx hb hK hW hT_x_2.1 hS_x_2 (vp_in_nI (n := i) (N := 40) (by omega) (by omega)) dX0_allTo_31 ?_
          refine lv_topi (fun y_13 ey_13 => ?_)
          obtain ⟨k_14, hb_k_14, hq_k_14⟩ := hi_f_12 (i) (by omega)
          obtain rfl : y_13 = nI k_14 := ey_13.trans (by show f_12 (nI (i)).toNatClampNeg = _; rw [nI_clamp (by omega)]; exact hq_k_14)
          refine lv_iload_n hx hb dX0_allTo_32 rfl (lv_at hl 3 rfl) ?_
          refine lv_icmp_ne (tgt := 46) hx hb dX0_allTo_33 (by decide) (fun c_33 => ?_) (fun c_33 => ?_)
          · refine lv_iinc (v := nI (i + 1)) (lv' := [(5, .int (nI (i + 1))), (3, .long sm), (0, .ref b), (1, .int k), (2, .int k2)]) hx hb dX0_allTo_46 hl (k := 0) rfl (nI_add (i) 1) (by decide) rfl (fun ls hl => ?_)
            refine lv_goto (tgt := 5) hx hb dX0_allTo_49 (by decide) ?_
            exact ih5 (i + 1) sm ls (by omega) (by omega) (lv_sub hl [0, 1, 2, 3, 4] rfl)
          · refine lv_lload_n hx hb dX0_allTo_36 rfl (lv_at hl 1 rfl) ?_
            refine lv_aload_n hx hb dX0_allTo_37 rfl (lv_at hl 2 rfl) ?_
            refine pl_get (ci := 0) (v := .ref x_4) (C := RX0) (T := TX0) (N := 8) hx hb hT iX0 hown hK hW hT_b.1 hS_b rfl 3 (by decide) w100 rfl dX0_allTo_38 ?_
            refine lv_iload hx hb dX0_allTo_41 (lv_at hl 0 rfl) ?_
            obtain ⟨f_15, hS_x_4⟩ := hTy.k22 hT_x_4
            refine pl_lald hx hb hK hW hT_x_4.1 hS_x_4 (vp_in_nI (n := i) (N := 40) (by omega) (by omega)) dX0_allTo_43 ?_
            refine lv_topl (fun y_16 ey_16 => ?_)
            refine lv_ladd hx hb dX0_allTo_44 ?_
            refine lv_topl (fun z_17 ez_17 => ?_)
            refine lv_lstore_n (lv' := [(3, .long z_17), (5, .int (nI i)), (0, .ref b), (1, .int k), (2, .int k2)]) hx hb dX0_allTo_45 rfl hl (by decide) rfl (fun ls hl => ?_)
            refine lv_iinc (v := nI (i + 1)) (lv' := [(5, .int (nI (i + 1))), (3, .long z_17), (0, .ref b), (1, .int k), (2, .int k2)]) hx hb dX0_allTo_46 hl (k := 1) rfl (nI_add (i) 1) (by decide) rfl (fun ls hl => ?_)
            refine lv_goto (tgt := 5) hx hb dX0_allTo_49 (by decide) ?_
            exact ih5 (i + 1) z_17 ls (by omega) (by omega) (lv_sub hl [0, 1, 2, 3, 4] rfl)
  exact loop ((41 - 0) + 1) 0 0 ls (Nat.lt_succ_self _) (by omega) (lv_sub hl [0, 1, 2, 3, 4] rfl)

set_option maxHeartbeats 4000000 in
set_option maxRecDepth 100000 in
theorem s_bitCount (l : Launch) (dC : Nat → ClassId) (dI : Nat → Nat → Nat) (sz : Nat) (k : Int32) : Met l yJ6_bitCount_0f7a4 (wT yJ6_bitCount_0f7a4 cJ6_bitCount_0f7a4 1 (some .int)) ({ frames := 0, cells := 0, slots := 0, locals := 0 }) (pcW dC dI [.int k] sz [] []) (vp_Si (fun r => True)) 0 0 (fun _ => False) := by
  refine Met.ofW (cc := cJ6_bitCount_0f7a4) (maxL := 1) (ret := (some .int)) (by decide) rfl ?_
  intro p e s m args below meth c s₁ B hml hv
  obtain ⟨rfl, hsz, hP, hK, hD0⟩ := hv
  have hx := B.exec
  have hb := B.bytes
  have hr := B.returns
  have hT : ∀ wd ∈ TB, wd.before [.int k].toArray s = true := fun wd h => atoms_spec (ws := wT yJ6_bitCount_0f7a4 cJ6_bitCount_0f7a4 1 (some .int)) B.pre wd (List.mem_cons_of_mem _ h)
  have hown : s.vm.findClass RJ6 = some m.cls := findClass_of_methodNamed B.named
  have hlocks := B.notSynchronized
  subst hsz
  have hl := lv_entry ([.int k]) (n := 1) (Nat.le_of_ble_eq_true rfl)
  rw [lg_entry_eq]
  generalize (lg_sl ([.int k]) ++ List.replicate (1 - (lg_sl ([.int k])).length) Slot.unset).toArray = ls at hl ⊢
  have hl : lv_has ls 1 [(0, .int k)] := hl
  refine lv_iload_n hx hb dJ6_bitCount_0f7a4_0 rfl (lv_at hl 0 rfl) ?_
  refine lv_iload_n hx hb dJ6_bitCount_0f7a4_1 rfl (lv_at hl 0 rfl) ?_
  refine lv_iconst (v := 1) hx hb dJ6_bitCount_0f7a4_2 (by decide) ?_
  refine lv_iushr hx hb dJ6_bitCount_0f7a4_3 rfl ?_
  refine lv_topi (fun z_1 ez_1 => ?_)
  refine lv_ldcw (v := 1431655765) hx hb hown (hT _ w885) dJ6_bitCount_0f7a4_4 ?_
  refine lv_iand hx hb dJ6_bitCount_0f7a4_7 ?_
  refine lv_topi (fun z_2 ez_2 => ?_)
  refine lv_isub hx hb dJ6_bitCount_0f7a4_8 ?_
  refine lv_topi (fun z_3 ez_3 => ?_)
  refine lv_istore_n (lv' := [(0, .int z_3)]) hx hb dJ6_bitCount_0f7a4_9 rfl hl (by decide) rfl (fun ls hl => ?_)
  refine lv_iload_n hx hb dJ6_bitCount_0f7a4_10 rfl (lv_at hl 0 rfl) ?_
  refine lv_ldcw (v := 858993459) hx hb hown (hT _ w886) dJ6_bitCount_0f7a4_11 ?_
  refine lv_iand hx hb dJ6_bitCount_0f7a4_14 ?_
  refine lv_topi (fun z_4 ez_4 => ?_)
  refine lv_iload_n hx hb dJ6_bitCount_0f7a4_15 rfl (lv_at hl 0 rfl) ?_
  refine lv_iconst (v := 2) hx hb dJ6_bitCount_0f7a4_16 (by decide) ?_
  refine lv_iushr hx hb dJ6_bitCount_0f7a4_17 rfl ?_
  refine lv_topi (fun z_5 ez_5 => ?_)
  refine lv_ldcw (v := 858993459) hx hb hown (hT _ w886) dJ6_bitCount_0f7a4_18 ?_
  refine lv_iand hx hb dJ6_bitCount_0f7a4_21 ?_
  refine lv_topi (fun z_6 ez_6 => ?_)
  refine lv_iadd hx hb dJ6_bitCount_0f7a4_22 ?_
  refine lv_topi (fun z_7 ez_7 => ?_)
  refine lv_istore_n (lv' := [(0, .int z_7)]) hx hb dJ6_bitCount_0f7a4_23 rfl hl (by decide) rfl (fun ls hl => ?_)
  refine lv_iload_n hx hb dJ6_bitCount_0f7a4_24 rfl (lv_at hl 0 rfl) ?_
  refine lv_iload_n hx hb dJ6_bitCount_0f7a4_25 rfl (lv_at hl 0 rfl) ?_
  refine lv_iconst (v := 4) hx hb dJ6_bitCount_0f7a4_26 (by decide) ?_
  refine lv_iushr hx hb dJ6_bitCount_0f7a4_27 rfl ?_
  refine lv_topi (fun z_8 ez_8 => ?_)
  refine lv_iadd hx hb dJ6_bitCount_0f7a4_28 ?_
  refine lv_topi (fun z_9 ez_9 => ?_)
  refine lv_ldcw (v := 252645135) hx hb hown (hT _ w887) dJ6_bitCount_0f7a4_29 ?_
  refine lv_iand hx hb dJ6_bitCount_0f7a4_32 ?_
  refine lv_topi (fun z_10 ez_10 => ?_)
  refine lv_istore_n (lv' := [(0, .int z_10)]) hx hb dJ6_bitCount_0f7a4_33 rfl hl (by decide) rfl (fun ls hl => ?_)
  refine lv_iload_n hx hb dJ6_bitCount_0f7a4_34 rfl (lv_at hl 0 rfl) ?_
  refine lv_iload_n hx hb dJ6_bitCount_0f7a4_35 rfl (lv_at hl 0 rfl) ?_
  refine lv_bipush (v := 8) hx hb dJ6_bitCount_0f7a4_36 (by decide) ?_
  refine lv_iushr hx hb dJ6_bitCount_0f7a4_38 rfl ?_
  refine lv_topi (fun z_11 ez_11 => ?_)
  refine lv_iadd hx hb dJ6_bitCount_0f7a4_39 ?_
  refine lv_topi (fun z_12 ez_12 => ?_)
  refine lv_istore_n (lv' := [(0, .int z_12)]) hx hb dJ6_bitCount_0f7a4_40 rfl hl (by decide) rfl (fun ls hl => ?_)
  refine lv_iload_n hx hb dJ6_bitCount_0f7a4_41 rfl (lv_at hl 0 rfl) ?_
  refine lv_iload_n hx hb dJ6_bitCount_0f7a4_42 rfl (lv_at hl 0 rfl) ?_
  refine lv_bipush (v := 16) hx hb dJ6_bitCount_0f7a4_43 (by decide) ?_
  refine lv_iushr hx hb dJ6_bitCount_0f7a4_45 rfl ?_
  refine lv_topi (fun z_13 ez_13 => ?_)
  refine lv_iadd hx hb dJ6_bitCount_0f7a4_46 ?_
  refine lv_topi (fun z_14 ez_14 => ?_)
  refine lv_istore_n (lv' := [(0, .int z_14)]) hx hb dJ6_bitCount_0f7a4_47 rfl hl (by decide) rfl (fun ls hl => ?_)
  refine lv_iload_n hx hb dJ6_bitCount_0f7a4_48 rfl (lv_at hl 0 rfl) ?_
  refine lv_bipush (v := 63) hx hb dJ6_bitCount_0f7a4_49 (by decide) ?_
  refine lv_iand hx hb dJ6_bitCount_0f7a4_51 ?_
  refine lv_topi (fun z_15 ez_15 => ?_)
  exact W.iret (v := z_15) hx hb hr (fun t ht h9 => ⟨z_15, rfl, trivial, ht⟩) (fun q h => by cases h) dJ6_bitCount_0f7a4_52

set_option maxHeartbeats 4000000 in
set_option maxRecDepth 100000 in
theorem s_othersOf (l : Launch) (dC : Nat → ClassId) (dI : Nat → Nat → Nat) (cy : Nat → ClassId) (L : List Nat) (kap : Nat → Nat) (pr : Pr) (S : Nat → va_E) (sz : Nat) (b : Nat) (k : Int32) (k2 : Int32) (hTy : Ty cy L kap pr S) (hT_b : TK L kap b 0) : Met l yX0_othersOf (wT yX0_othersOf cX0_othersOf 5 (some .int)) ({ frames := 1, cells := 0, slots := 0, locals := 20 }) (pcN dC dI [.ref b, .int k, .int k2] sz (va_pl L S) (cyT cy) NLs []) (vp_Si (fun r => True)) 0 0 (fun _ => False) := by
  refine Met.ofW (cc := cX0_othersOf) (maxL := 5) (ret := (some .int)) (by decide) rfl ?_
  intro p e s m args below meth c s₁ B hml hv
  obtain ⟨rfl, hsz, hP, hK, hD0, hN, -⟩ := hv
  have hx := B.exec
  have hb := B.bytes
  have hr := B.returns
  have hT : ∀ wd ∈ TB, wd.before [.ref b, .int k, .int k2].toArray s = true := fun wd h => atoms_spec (ws := wT yX0_othersOf cX0_othersOf 5 (some .int)) B.pre wd (List.mem_cons_of_mem _ h)
  have hown : s.vm.findClass RX0 = some m.cls := findClass_of_methodNamed B.named
  have hlocks := B.notSynchronized
  subst hsz
  have hW : PW dC dI L (AL L s.heap.size) s.heap S s.heap [] := ⟨hP, pl_self hD0, va_S.rf⟩
  have hFr : Fr kap [] S S := Fr.rf
  have hl := lv_entry ([.ref b, .int k, .int k2]) (n := 5) (Nat.le_of_ble_eq_true rfl)
  rw [lg_entry_eq]
  generalize (lg_sl ([.ref b, .int k, .int k2]) ++ List.replicate (5 - (lg_sl ([.ref b, .int k, .int k2])).length) Slot.unset).toArray = ls at hl ⊢
  have hl : lv_has ls 5 [(0, .ref b), (1, .int k), (2, .int k2)] := hl
  refine lv_iconst (v := 0) hx hb dX0_othersOf_0 (by decide) ?_
  refine lv_istore_n (lv' := [(3, .int 0), (0, .ref b), (1, .int k), (2, .int k2)]) hx hb dX0_othersOf_1 rfl hl (by decide) rfl (fun ls hl => ?_)
  refine lv_iconst (v := 0) hx hb dX0_othersOf_2 (by decide) ?_
  refine lv_istore (lv' := [(4, .int 0), (3, .int 0), (0, .ref b), (1, .int k), (2, .int k2)]) hx hb dX0_othersOf_3 hl (by decide) rfl (fun ls hl => ?_)
  have loop : ∀ (fuel : Nat) (i : Nat) (fd : Int32) (ls : Array Slot), 41 - i < fuel → (i ≤ 40) → lv_has ls 5 [(4, .int (nI i)), (3, .int fd), (0, .ref b), (1, .int k), (2, .int k2)] → W p l e (headSpec (wT yX0_othersOf cX0_othersOf 5 (some .int)) { frames := 1, cells := 0, slots := 0, locals := 20 }).room s m [.ref b, .int k, .int k2].toArray below meth c s.heap [] 0 0 (MQ below (vp_Si (fun r => True)) [.ref b, .int k, .int k2].toArray s 0 0 (fun _ => False)) (F0 m 5 ls []) := by
    intro fuel
    induction fuel with
    | zero => intro i fd ls h; exact absurd h (Nat.not_lt_zero _)
    | succ fu5 ih5 =>
      intro i fd ls hm5 hb_i hl
      refine lv_iload hx hb dX0_othersOf_5 (lv_at hl 0 rfl) ?_
      refine lv_aload_n hx hb dX0_othersOf_7 rfl (lv_at hl 2 rfl) ?_
      obtain ⟨x_1, x_2, x_3, x_4, x_5, x_6, x_7, x_8, hS_b, hT_x_1, hT_x_2, hT_x_3, hT_x_4, hT_x_5, hT_x_6, hb_x_7⟩ := hTy.k0 hT_b
      refine pl_get (ci := 0) (v := .int (nI x_7)) (C := RX0) (T := TX0) (N := 8) hx hb hT iX0 hown hK hW hT_b.1 hS_b rfl 6 (by decide) w112 rfl dX0_othersOf_8 ?_
      refine lv_icmp_ge (tgt := 91) hx hb dX0_othersOf_11 (by decide) (fun c_11 => ?_) (fun c_11 => ?_)
      · have c_11 : x_7 ≤ i := (nI_leI (a := x_7) (b := i) (by omega) (by omega)).mp c_11
        refine lv_iload_n hx hb dX0_othersOf_91 rfl (lv_at hl 1 rfl) ?_
        refine vp_callSi (va_Run.run (va_runS (As := [.int fd]) (rest := []) ⟨hx, hb, hml, hown, hT⟩ (s_bitCount l dC dI s.heap.size fd) (va_cwS 1 hT (gS w882 w883 w21 w884) rfl rfl rfl (by decide +kernel) ⟨(Nat.le_of_ble_eq_true rfl), (Nat.le_of_ble_eq_true rfl)⟩) ⟨pcW.blind, pcW.pre (va_P0 _ _ _) (hK.sub (tys' := []) [] rfl) (va_D0 (fun _ => True))⟩ rfl rfl hl.1 rfl (lv_room (Nat.le_of_ble_eq_true rfl)) dX0_othersOf_92 ⟨(Nat.le_of_ble_eq_true rfl), (Nat.le_of_ble_eq_true rfl)⟩)) (fun r_9 hr_9 => ?_)
        exact W.iret (v := r_9) hx hb hr (fun t ht h9 => ⟨r_9, rfl, trivial, ht⟩) (fun q h => by cases h) dX0_othersOf_95
      · have c_11 : ¬ (x_7 ≤ i) := fun hh9 => c_11 ((nI_leI (a := x_7) (b := i) (by omega) (by omega)).mpr hh9)
        refine lv_aload_n hx hb dX0_othersOf_14 rfl (lv_at hl 2 rfl) ?_
        refine pl_get (ci := 0) (v := .ref x_3) (C := RX0) (T := TX0) (N := 8) hx hb hT iX0 hown hK hW hT_b.1 hS_b rfl 2 (by decide) w96 rfl dX0_othersOf_15 ?_
        refine lv_iload hx hb dX0_othersOf_18 (lv_at hl 0 rfl) ?_
        obtain ⟨f_10, hS_x_3, hi_f_10⟩ := hTy.k21 hT_x_3
        refine pl_iald hx hb hK hW hT_x_3.1 hS_x_3 (vp_in_nI (n := i) (N := 40) (by omega) (by omega)) dX0_othersOf_20 ?_
        refine lv_topi (fun y_11 ey_11 => ?_)
        obtain ⟨k_12, hb_k_12, hq_k_12⟩ := hi_f_10 (i) (by omega)
        obtain rfl : y_11 = nI k_12 := ey_11.trans (by show f_10 (nI (i)).toNatClampNeg = _; rw [nI_clamp (by omega)]; exact hq_k_12)
        refine lv_iload_n hx hb dX0_othersOf_21 rfl (lv_at hl 4 rfl) ?_
        refine lv_icmp_ne (tgt := 51) hx hb dX0_othersOf_22 (by decide) (fun c_22 => ?_) (fun c_22 => ?_)
        · refine lv_aload_n hx hb dX0_othersOf_51 rfl (lv_at hl 2 rfl) ?_
          refine pl_get (ci := 0) (v := .ref x_3) (C := RX0) (T := TX0) (N := 8) hx hb hT iX0 hown hK hW hT_b.1 hS_b rfl 2 (by decide) w96 rfl dX0_othersOf_52 ?_
          refine lv_iload hx hb dX0_othersOf_55 (lv_at hl 0 rfl) ?_
          refine pl_iald hx hb hK hW hT_x_3.1 hS_x_3 (vp_in_nI (n := i) (N := 40) (by omega) (by omega)) dX0_othersOf_57 ?_
          refine lv_topi (fun y_13 ey_13 => ?_)
          obtain ⟨k_14, hb_k_14, hq_k_14⟩ := hi_f_10 (i) (by omega)
          obtain rfl : y_13 = nI k_14 := ey_13.trans (by show f_10 (nI (i)).toNatClampNeg = _; rw [nI_clamp (by omega)]; exact hq_k_14)
          refine lv_iload_n hx hb dX0_othersOf_58 rfl (lv_at hl 4 rfl) ?_
          refine lv_icmp_ne (tgt := 85) hx hb dX0_othersOf_59 (by decide) (fun c_59 => ?_) (fun c_59 => ?_)
          · refine lv_iinc (v := nI (i + 1)) (lv' := [(4, .int (nI (i + 1))), (3, .int fd), (0, .ref b), (1, .int k), (2, .int k2)]) hx hb dX0_othersOf_85 hl (k := 0) rfl (nI_add (i) 1) (by decide) rfl (fun ls hl => ?_)
            refine lv_goto (tgt := 5) hx hb dX0_othersOf_88 (by decide) ?_
            exact ih5 (i + 1) fd ls (by omega) (by omega) (lv_sub hl [0, 1, 2, 3, 4] rfl)
          · refine lv_aload_n hx hb dX0_othersOf_62 rfl (lv_at hl 2 rfl) ?_
            refine pl_get (ci := 0) (v := .ref x_2) (C := RX0) (T := TX0) (N := 8) hx hb hT iX0 hown hK hW hT_b.1 hS_b rfl 1 (by decide) w92 rfl dX0_othersOf_63 ?_
            refine lv_iload hx hb dX0_othersOf_66 (lv_at hl 0 rfl) ?_
            obtain ⟨f_15, hS_x_2, hi_f_15⟩ := hTy.k20 hT_x_2
            refine pl_iald hx hb hK hW hT_x_2.1 hS_x_2 (vp_in_nI (n := i) (N := 40) (by omega) (by omega)) dX0_othersOf_68 ?_
            refine lv_topi (fun y_16 ey_16 => ?_)
            obtain ⟨k_17, hb_k_17, hq_k_17⟩ := hi_f_15 (i) (by omega)
            obtain rfl : y_16 = nI k_17 := ey_16.trans (by show f_15 (nI (i)).toNatClampNeg = _; rw [nI_clamp (by omega)]; exact hq_k_17)
            refine lv_iload_n hx hb dX0_othersOf_69 rfl (lv_at hl 3 rfl) ?_
            refine lv_icmp_ne (tgt := 85) hx hb dX0_othersOf_70 (by decide) (fun c_70 => ?_) (fun c_70 => ?_)
            · refine lv_iinc (v := nI (i + 1)) (lv' := [(4, .int (nI (i + 1))), (3, .int fd), (0, .ref b), (1, .int k), (2, .int k2)]) hx hb dX0_othersOf_85 hl (k := 0) rfl (nI_add (i) 1) (by decide) rfl (fun ls hl => ?_)
              refine lv_goto (tgt := 5) hx hb dX0_othersOf_88 (by decide) ?_
              exact ih5 (i + 1) fd ls (by omega) (by omega) (lv_sub hl [0, 1, 2, 3, 4] rfl)
            · refine lv_iload_n hx hb dX0_othersOf_73 rfl (lv_at hl 1 rfl) ?_
              refine lv_iconst (v := 1) hx hb dX0_othersOf_74 (by decide) ?_
              refine lv_aload_n hx hb dX0_othersOf_75 rfl (lv_at hl 2 rfl) ?_
              refine pl_get (ci := 0) (v := .ref x_1) (C := RX0) (T := TX0) (N := 8) hx hb hT iX0 hown hK hW hT_b.1 hS_b rfl 0 (by decide) w88 rfl dX0_othersOf_76 ?_
              refine lv_iload hx hb dX0_othersOf_79 (lv_at hl 0 rfl) ?_
              obtain ⟨f_18, hS_x_1, hi_f_18⟩ := hTy.k20 hT_x_1
              refine pl_iald hx hb hK hW hT_x_1.1 hS_x_1 (vp_in_nI (n := i) (N := 40) (by omega) (by omega)) dX0_othersOf_81 ?_
              refine lv_topi (fun y_19 ey_19 => ?_)
              obtain ⟨k_20, hb_k_20, hq_k_20⟩ := hi_f_18 (i) (by omega)
              obtain rfl : y_19 = nI k_20 := ey_19.trans (by show f_18 (nI (i)).toNatClampNeg = _; rw [nI_clamp (by omega)]; exact hq_k_20)
              refine lv_ishl hx hb dX0_othersOf_82 ?_
              refine lv_topi (fun z_21 ez_21 => ?_)
              refine lv_ior hx hb dX0_othersOf_83 ?_
              refine lv_topi (fun z_22 ez_22 => ?_)
              refine lv_istore_n (lv' := [(3, .int z_22), (4, .int (nI i)), (0, .ref b), (1, .int k), (2, .int k2)]) hx hb dX0_othersOf_84 rfl hl (by decide) rfl (fun ls hl => ?_)
              refine lv_iinc (v := nI (i + 1)) (lv' := [(4, .int (nI (i + 1))), (3, .int z_22), (0, .ref b), (1, .int k), (2, .int k2)]) hx hb dX0_othersOf_85 hl (k := 1) rfl (nI_add (i) 1) (by decide) rfl (fun ls hl => ?_)
              refine lv_goto (tgt := 5) hx hb dX0_othersOf_88 (by decide) ?_
              exact ih5 (i + 1) z_22 ls (by omega) (by omega) (lv_sub hl [0, 1, 2, 3, 4] rfl)
        · refine lv_aload_n hx hb dX0_othersOf_25 rfl (lv_at hl 2 rfl) ?_
          refine pl_get (ci := 0) (v := .ref x_1) (C := RX0) (T := TX0) (N := 8) hx hb hT iX0 hown hK hW hT_b.1 hS_b rfl 0 (by decide) w88 rfl dX0_othersOf_26 ?_
          refine lv_iload hx hb dX0_othersOf_29 (lv_at hl 0 rfl) ?_
          obtain ⟨f_23, hS_x_1, hi_f_23⟩ := hTy.k20 hT_x_1
          refine pl_iald hx hb hK hW hT_x_1.1 hS_x_1 (vp_in_nI (n := i) (N := 40) (by omega) (by omega)) dX0_othersOf_31 ?_
          refine lv_topi (fun y_24 ey_24 => ?_)
          obtain ⟨k_25, hb_k_25, hq_k_25⟩ := hi_f_23 (i) (by omega)
          obtain rfl : y_24 = nI k_25 := ey_24.trans (by show f_23 (nI (i)).toNatClampNeg = _; rw [nI_clamp (by omega)]; exact hq_k_25)
          refine lv_iload_n hx hb dX0_othersOf_32 rfl (lv_at hl 3 rfl) ?_
          refine lv_icmp_ne (tgt := 51) hx hb dX0_othersOf_33 (by decide) (fun c_33 => ?_) (fun c_33 => ?_)
          · refine lv_aload_n hx hb dX0_othersOf_51 rfl (lv_at hl 2 rfl) ?_
            refine pl_get (ci := 0) (v := .ref x_3) (C := RX0) (T := TX0) (N := 8) hx hb hT iX0 hown hK hW hT_b.1 hS_b rfl 2 (by decide) w96 rfl dX0_othersOf_52 ?_
            refine lv_iload hx hb dX0_othersOf_55 (lv_at hl 0 rfl) ?_
            refine pl_iald hx hb hK hW hT_x_3.1 hS_x_3 (vp_in_nI (n := i) (N := 40) (by omega) (by omega)) dX0_othersOf_57 ?_
            refine lv_topi (fun y_26 ey_26 => ?_)
            obtain ⟨k_27, hb_k_27, hq_k_27⟩ := hi_f_10 (i) (by omega)
            obtain rfl : y_26 = nI k_27 := ey_26.trans (by show f_10 (nI (i)).toNatClampNeg = _; rw [nI_clamp (by omega)]; exact hq_k_27)
            refine lv_iload_n hx hb dX0_othersOf_58 rfl (lv_at hl 4 rfl) ?_
            refine lv_icmp_ne (tgt := 85) hx hb dX0_othersOf_59 (by decide) (fun c_59 => ?_) (fun c_59 => ?_)
            · refine lv_iinc (v := nI (i + 1)) (lv' := [(4, .int (nI (i + 1))), (3, .int fd), (0, .ref b), (1, .int k), (2, .int k2)]) hx hb dX0_othersOf_85 hl (k := 0) rfl (nI_add (i) 1) (by decide) rfl (fun ls hl => ?_)
              refine lv_goto (tgt := 5) hx hb dX0_othersOf_88 (by decide) ?_
              exact ih5 (i + 1) fd ls (by omega) (by omega) (lv_sub hl [0, 1, 2, 3, 4] rfl)
            · refine lv_aload_n hx hb dX0_othersOf_62 rfl (lv_at hl 2 rfl) ?_
              refine pl_get (ci := 0) (v := .ref x_2) (C := RX0) (T := TX0) (N := 8) hx hb hT iX0 hown hK hW hT_b.1 hS_b rfl 1 (by decide) w92 rfl dX0_othersOf_63 ?_
              refine lv_iload hx hb dX0_othersOf_66 (lv_at hl 0 rfl) ?_
              obtain ⟨f_28, hS_x_2, hi_f_28⟩ := hTy.k20 hT_x_2
              refine pl_iald hx hb hK hW hT_x_2.1 hS_x_2 (vp_in_nI (n := i) (N := 40) (by omega) (by omega)) dX0_othersOf_68 ?_
              refine lv_topi (fun y_29 ey_29 => ?_)
              obtain ⟨k_30, hb_k_30, hq_k_30⟩ := hi_f_28 (i) (by omega)
              obtain rfl : y_29 = nI k_30 := ey_29.trans (by show f_28 (nI (i)).toNatClampNeg = _; rw [nI_clamp (by omega)]; exact hq_k_30)
              refine lv_iload_n hx hb dX0_othersOf_69 rfl (lv_at hl 3 rfl) ?_
              refine lv_icmp_ne (tgt := 85) hx hb dX0_othersOf_70 (by decide) (fun c_70 => ?_) (fun c_70 => ?_)
              · refine lv_iinc (v := nI (i + 1)) (lv' := [(4, .int (nI (i + 1))), (3, .int fd), (0, .ref b), (1, .int k), (2, .int k2)]) hx hb dX0_othersOf_85 hl (k := 0) rfl (nI_add (i) 1) (by decide) rfl (fun ls hl => ?_)
                refine lv_goto (tgt := 5) hx hb dX0_othersOf_88 (by decide) ?_
                exact ih5 (i + 1) fd ls (by omega) (by omega) (lv_sub hl [0, 1, 2, 3, 4] rfl)
              · refine lv_iload_n hx hb dX0_othersOf_73 rfl (lv_at hl 1 rfl) ?_
                refine lv_iconst (v := 1) hx hb dX0_othersOf_74 (by decide) ?_
                refine lv_aload_n hx hb dX0_othersOf_75 rfl (lv_at hl 2 rfl) ?_
                refine pl_get (ci := 0) (v := .ref x_1) (C := RX0) (T := TX0) (N := 8) hx hb hT iX0 hown hK hW hT_b.1 hS_b rfl 0 (by decide) w88 rfl dX0_othersOf_76 ?_
                refine lv_iload hx hb dX0_othersOf_79 (lv_at hl 0 rfl) ?_
                refine pl_iald hx hb hK hW hT_x_1.1 hS_x_1 (vp_in_nI (n := i) (N := 40) (by omega) (by omega)) dX0_othersOf_81 ?_
                refine lv_topi (fun y_31 ey_31 => ?_)
                obtain ⟨k_32, hb_k_32, hq_k_32⟩ := hi_f_23 (i) (by omega)
                obtain rfl : y_31 = nI k_32 := ey_31.trans (by show f_23 (nI (i)).toNatClampNeg = _; rw [nI_clamp (by omega)]; exact hq_k_32)
                refine lv_ishl hx hb dX0_othersOf_82 ?_
                refine lv_topi (fun z_33 ez_33 => ?_)
                refine lv_ior hx hb dX0_othersOf_83 ?_
                refine lv_topi (fun z_34 ez_34 => ?_)
                refine lv_istore_n (lv' := [(3, .int z_34), (4, .int (nI i)), (0, .ref b), (1, .int k), (2, .int k2)]) hx hb dX0_othersOf_84 rfl hl (by decide) rfl (fun ls hl => ?_)
                refine lv_iinc (v := nI (i + 1)) (lv' := [(4, .int (nI (i + 1))), (3, .int z_34), (0, .ref b), (1, .int k), (2, .int k2)]) hx hb dX0_othersOf_85 hl (k := 1) rfl (nI_add (i) 1) (by decide) rfl (fun ls hl => ?_)
                refine lv_goto (tgt := 5) hx hb dX0_othersOf_88 (by decide) ?_
                exact ih5 (i + 1) z_34 ls (by omega) (by omega) (lv_sub hl [0, 1, 2, 3, 4] rfl)
          · refine lv_iload_n hx hb dX0_othersOf_36 rfl (lv_at hl 1 rfl) ?_
            refine lv_iconst (v := 1) hx hb dX0_othersOf_37 (by decide) ?_
            refine lv_aload_n hx hb dX0_othersOf_38 rfl (lv_at hl 2 rfl) ?_
            refine pl_get (ci := 0) (v := .ref x_2) (C := RX0) (T := TX0) (N := 8) hx hb hT iX0 hown hK hW hT_b.1 hS_b rfl 1 (by decide) w92 rfl dX0_othersOf_39 ?_
            refine lv_iload hx hb dX0_othersOf_42 (lv_at hl 0 rfl) ?_
            obtain ⟨f_35, hS_x_2, hi_f_35⟩ := hTy.k20 hT_x_2
            refine pl_iald hx hb hK hW hT_x_2.1 hS_x_2 (vp_in_nI (n := i) (N := 40) (by omega) (by omega)) dX0_othersOf_44 ?_
            refine lv_topi (fun y_36 ey_36 => ?_)
            obtain ⟨k_37, hb_k_37, hq_k_37⟩ := hi_f_35 (i) (by omega)
            obtain rfl : y_36 = nI k_37 := ey_36.trans (by show f_35 (nI (i)).toNatClampNeg = _; rw [nI_clamp (by omega)]; exact hq_k_37)
            refine lv_ishl hx hb dX0_othersOf_45 ?_
            refine lv_topi (fun z_38 ez_38 => ?_)
            refine lv_ior hx hb dX0_othersOf_46 ?_
            refine lv_topi (fun z_39 ez_39 => ?_)
            refine lv_istore_n (lv' := [(3, .int z_39), (4, .int (nI i)), (0, .ref b), (1, .int k), (2, .int k2)]) hx hb dX0_othersOf_47 rfl hl (by decide) rfl (fun ls hl => ?_)
            refine lv_goto (tgt := 85) hx hb dX0_othersOf_48 (by decide) ?_
            refine lv_iinc (v := nI (i + 1)) (lv' := [(4, .int (nI (i + 1))), (3, .int z_39), (0, .ref b), (1, .int k), (2, .int k2)]) hx hb dX0_othersOf_85 hl (k := 1) rfl (nI_add (i) 1) (by decide) rfl (fun ls hl => ?_)
            refine lv_goto (tgt := 5) hx hb dX0_othersOf_88 (by decide) ?_
            exact ih5 (i + 1) z_39 ls (by omega) (by omega) (lv_sub hl [0, 1, 2, 3, 4] rfl)
  exact loop ((41 - 0) + 1) 0 0 ls (Nat.lt_succ_self _) (by omega) (lv_sub hl [0, 1, 2, 3, 4] rfl)

set_option maxHeartbeats 4000000 in
set_option maxRecDepth 100000 in
theorem s_pput (l : Launch) (dC : Nat → ClassId) (dI : Nat → Nat → Nat) (cy : Nat → ClassId) (L : List Nat) (kap : Nat → Nat) (pr : Pr) (S : Nat → va_E) (sz : Nat) (g : Nat) (k : Int32) (hTy : Ty cy L kap pr S) (hT_g : TK L kap g 4) : Met l yX4_put (wT yX4_put cX4_put 2 none) ({ frames := 0, cells := 0, slots := 0, locals := 0 }) (pcN dC dI [.ref g, .int k] sz (va_pl L S) (cyT cy) NLs []) (va_Qv (fun S' => Ty cy L kap pr S' ∧ Fr kap [4, 40] S S') (fun S' t => pB dC dI (AL L sz) (va_pl L S') (cyT cy) t) (AL L sz)) 0 0 (AL L sz) := by
  refine Met.ofW (cc := cX4_put) (maxL := 2) (ret := none) (by decide) rfl ?_
  intro p e s m args below meth c s₁ B hml hv
  obtain ⟨rfl, hsz, hP, hK, hD0, hN, -⟩ := hv
  have hx := B.exec
  have hb := B.bytes
  have hr := B.returns
  have hT : ∀ wd ∈ TB, wd.before [.ref g, .int k].toArray s = true := fun wd h => atoms_spec (ws := wT yX4_put cX4_put 2 none) B.pre wd (List.mem_cons_of_mem _ h)
  have hown : s.vm.findClass RX4 = some m.cls := findClass_of_methodNamed B.named
  have hlocks := B.notSynchronized
  subst hsz
  have hW : PW dC dI L (AL L s.heap.size) s.heap S s.heap [] := ⟨hP, pl_self hD0, va_S.rf⟩
  have hA0 : ∀ q, q ∈ L → AL L s.heap.size q := fun _ h => Or.inl h
  have hA : ∀ q, s.heap.size ≤ q → AL L s.heap.size q := fun _ h => Or.inr h
  have hFr : Fr kap [4, 40] S S := Fr.rf
  have hl := lv_entry ([.ref g, .int k]) (n := 2) (Nat.le_of_ble_eq_true rfl)
  rw [lg_entry_eq]
  generalize (lg_sl ([.ref g, .int k]) ++ List.replicate (2 - (lg_sl ([.ref g, .int k])).length) Slot.unset).toArray = ls at hl ⊢
  have hl : lv_has ls 2 [(0, .ref g), (1, .int k)] := hl
  refine lv_aload_n hx hb dX4_put_0 rfl (lv_at hl 0 rfl) ?_
  obtain ⟨x_1, x_2, x_3, hS_g, hT_x_1, hb_x_2, hT_x_3⟩ := hTy.k4 hT_g
  refine pl_get (ci := 4) (v := .int (nI x_2)) (C := RX4) (T := TX4) (N := 3) hx hb hT iX4 hown hK hW hT_g.1 hS_g rfl 1 (by decide) w339 rfl dX4_put_1 ?_
  refine lv_bipush (v := 64) hx hb dX4_put_4 (by decide) ?_
  refine lv_icmp_ge (tgt := 30) hx hb dX4_put_6 (by decide) (fun c_6 => ?_) (fun c_6 => ?_)
  · have c_6 : 64 ≤ x_2 := (nI_leI (a := 64) (b := x_2) (by omega) (by omega)).mp c_6
    exact W.vret hx hb hr (fun t ht h9 => ⟨⟨S, rfl, ⟨hTy, hFr⟩, by rw [ht]; exact hW.1, va_K.moved h9.alike hK, hW.2.1⟩, hW.2.2.F ht⟩) hW.2.2.2.2 dX4_put_30
  · have c_6 : ¬ (64 ≤ x_2) := fun hh9 => c_6 ((nI_leI (a := 64) (b := x_2) (by omega) (by omega)).mpr hh9)
    refine lv_aload_n hx hb dX4_put_9 rfl (lv_at hl 0 rfl) ?_
    refine pl_get (ci := 4) (v := .ref x_1) (C := RX4) (T := TX4) (N := 3) hx hb hT iX4 hown hK hW hT_g.1 hS_g rfl 0 (by decide) w337 rfl dX4_put_10 ?_
    refine lv_aload_n hx hb dX4_put_13 rfl (lv_at hl 0 rfl) ?_
    refine pl_get (ci := 4) (v := .int (nI x_2)) (C := RX4) (T := TX4) (N := 3) hx hb hT iX4 hown hK hW hT_g.1 hS_g rfl 1 (by decide) w339 rfl dX4_put_14 ?_
    refine lv_iload_n hx hb dX4_put_17 rfl (lv_at hl 1 rfl) ?_
    refine lv_i2b hx hb dX4_put_18 rfl ?_
    refine lv_topi (fun z_4 ez_4 => ?_)
    obtain ⟨f_5, hS_x_1⟩ := hTy.k40 hT_x_1
    refine pl_bast hx hb hK hW hT_x_1.1 hS_x_1 (vp_in_nI (n := x_2) (N := 64) (by omega) (by omega)) dX4_put_19 (fun H locs f_7 S_6 ef_f_7 e1 hW => ?_)
    have hTy := hTy.u40 e1 hT_x_1 ⟨f_7, rfl⟩
    have hS_g := un e1 hT_g hT_x_1 (by decide) hS_g
    have hFr := uf hFr e1 hT_x_1 (by decide) (by decide)
    have hS_x_1 := us e1
    refine lv_aload_n hx hb dX4_put_20 rfl (lv_at hl 0 rfl) ?_
    refine lv_dup hx hb dX4_put_21 rfl ?_
    refine pl_get (ci := 4) (v := .int (nI x_2)) (C := RX4) (T := TX4) (N := 3) hx hb hT iX4 hown hK hW hT_g.1 hS_g rfl 1 (by decide) w339 rfl dX4_put_22 ?_
    refine lv_iconst (v := 1) hx hb dX4_put_25 (by decide) ?_
    refine lv_iadd hx hb dX4_put_26 ?_
    refine lv_topi (fun z_8 ez_8 => ?_)
    obtain rfl : z_8 = nI (x_2 + 1) := ez_8.trans (nI_add (x_2) (1))
    refine pl_put (ci := 4) (v := .int (nI (x_2 + 1))) (ty := .int) (C := RX4) (T := TX4) (N := 3) (fs' := [.ref x_1, .int (nI (x_2 + 1)), .ref x_3]) hx hb hT iX4 tyX4 tyX4_ok nmX4 hown hK hW hT_g.1 hS_g rfl 1 (by decide) w339 rfl (by decide +kernel) rfl rfl (Nat.le_of_ble_eq_true rfl) rfl dX4_put_27 (fun H locs S_9 e1 hW => ?_)
    have hTy := hTy.u4 e1 hT_g ⟨x_1, x_2 + 1, x_3, rfl, hT_x_1, (by omega), hT_x_3⟩
    have hS_x_1 := un e1 hT_x_1 hT_g (by decide) hS_x_1
    have hFr := uf hFr e1 hT_g (by decide) (by decide)
    have hS_g := us e1
    exact W.vret hx hb hr (fun t ht h9 => ⟨⟨S_9, rfl, ⟨hTy, hFr⟩, by rw [ht]; exact hW.1, va_K.moved h9.alike hK, hW.2.1⟩, hW.2.2.F ht⟩) hW.2.2.2.2 dX4_put_30

set_option maxHeartbeats 4000000 in
set_option maxRecDepth 100000 in
theorem s_putName (l : Launch) (dC : Nat → ClassId) (dI : Nat → Nat → Nat) (cy : Nat → ClassId) (L : List Nat) (kap : Nat → Nat) (pr : Pr) (S : Nat → va_E) (sz : Nat) (g : Nat) (n : Nat) (t : Nat) (hTy : Ty cy L kap pr S) (hT_g : TK L kap g 4) (hT_n : TK L kap n 3) (hb_t : t < 12) : Met l yX4_putName (wT yX4_putName cX4_putName 4 none) ({ frames := 1, cells := 0, slots := 0, locals := 21 }) (pcN dC dI [.ref g, .ref n, .int (nI t)] sz (va_pl L S) (cyT cy) NLs []) (va_Qv (fun S' => Ty cy L kap pr S' ∧ Fr kap [4, 40] S S') (fun S' t => pB dC dI (AL L sz) (va_pl L S') (cyT cy) t) (AL L sz)) 0 0 (AL L sz) := by
  refine Met.ofW (cc := cX4_putName) (maxL := 4) (ret := none) (by decide) rfl ?_
  intro p e s m args below meth c s₁ B hml hv
  obtain ⟨rfl, hsz, hP, hK, hD0, hN, -⟩ := hv
  have hx := B.exec
  have hb := B.bytes
  have hr := B.returns
  have hT : ∀ wd ∈ TB, wd.before [.ref g, .ref n, .int (nI t)].toArray s = true := fun wd h => atoms_spec (ws := wT yX4_putName cX4_putName 4 none) B.pre wd (List.mem_cons_of_mem _ h)
  have hown : s.vm.findClass RX4 = some m.cls := findClass_of_methodNamed B.named
  have hlocks := B.notSynchronized
  subst hsz
  have hW : PW dC dI L (AL L s.heap.size) s.heap S s.heap [] := ⟨hP, pl_self hD0, va_S.rf⟩
  have hA0 : ∀ q, q ∈ L → AL L s.heap.size q := fun _ h => Or.inl h
  have hA : ∀ q, s.heap.size ≤ q → AL L s.heap.size q := fun _ h => Or.inr h
  have hFr : Fr kap [4, 40] S S := Fr.rf
  have hl := lv_entry ([.ref g, .ref n, .int (nI t)]) (n := 4) (Nat.le_of_ble_eq_true rfl)
  rw [lg_entry_eq]
  generalize (lg_sl ([.ref g, .ref n, .int (nI t)]) ++ List.replicate (4 - (lg_sl ([.ref g, .ref n, .int (nI t)])).length) Slot.unset).toArray = ls at hl ⊢
  have hl : lv_has ls 4 [(0, .ref g), (1, .ref n), (2, .int (nI t))] := hl
  refine lv_iconst (v := 0) hx hb dX4_putName_0 (by decide) ?_
  refine lv_istore_n (lv' := [(3, .int 0), (0, .ref g), (1, .ref n), (2, .int (nI t))]) hx hb dX4_putName_1 rfl hl (by decide) rfl (fun ls hl => ?_)
  have loop : ∀ (fuel : Nat) (i : Nat) (SS : Nat → va_E) (H : Heap) (locs : List Loc) (ls : Array Slot), 9 - i < fuel → (i ≤ 8) → Ty cy L kap pr SS → Fr kap [4, 40] S SS → Fr kap [4, 40] S SS → PW dC dI L (AL L s.heap.size) s.heap SS H locs → lv_has ls 4 [(3, .int (nI i)), (0, .ref g), (1, .ref n), (2, .int (nI t))] → W p l e (headSpec (wT yX4_putName cX4_putName 4 none) { frames := 1, cells := 0, slots := 0, locals := 21 }).room s m [.ref g, .ref n, .int (nI t)].toArray below meth c H locs 0 0 (MQ below (va_Qv (fun S' => Ty cy L kap pr S' ∧ Fr kap [4, 40] S S') (fun S' t => pB dC dI (AL L s.heap.size) (va_pl L S') (cyT cy) t) (AL L s.heap.size)) [.ref g, .ref n, .int (nI t)].toArray s 0 0 (AL L s.heap.size)) (F0 m 2 ls []) := by
    intro fuel
    induction fuel with
    | zero => intro i SS H locs ls h; exact absurd h (Nat.not_lt_zero _)
    | succ fu2 ih2 =>
      intro i S_1 H locs ls hm2 hb_i hTy hFr hFl2 hW hl
      refine lv_iload_n hx hb dX4_putName_2 rfl (lv_at hl 0 rfl) ?_
      refine lv_aload_n hx hb dX4_putName_3 rfl (lv_at hl 2 rfl) ?_
      obtain ⟨x_2, x_3, x_4, x_5, hS_n, hT_x_2, hT_x_3, hb_x_4, hb_x_5⟩ := hTy.k3 hT_n
      refine pl_get (ci := 3) (v := .ref x_3) (C := RX3) (T := TX3) (N := 4) hx hb hT iX3 hown hK hW hT_n.1 hS_n rfl 1 (by decide) w61 rfl dX4_putName_4 ?_
      refine lv_iload_n hx hb dX4_putName_7 rfl (lv_at hl 3 rfl) ?_
      obtain ⟨f_6, hS_x_3, hi_f_6⟩ := hTy.k26 hT_x_3
      refine pl_iald hx hb hK hW hT_x_3.1 hS_x_3 (vp_in_nI (n := t) (N := 12) (by omega) (by omega)) dX4_putName_8 ?_
      refine lv_topi (fun y_7 ey_7 => ?_)
      obtain ⟨k_8, hb_k_8, hq_k_8⟩ := hi_f_6 (t) (by omega)
      obtain rfl : y_7 = nI k_8 := ey_7.trans (by show f_6 (nI (t)).toNatClampNeg = _; rw [nI_clamp (by omega)]; exact hq_k_8)
      refine lv_icmp_ge (tgt := 33) hx hb dX4_putName_9 (by decide) (fun c_9 => ?_) (fun c_9 => ?_)
      · have c_9 : k_8 ≤ i := (nI_leI (a := k_8) (b := i) (by omega) (by omega)).mp c_9
        exact W.vret hx hb hr (fun t ht h9 => ⟨⟨S_1, rfl, ⟨hTy, hFr⟩, by rw [ht]; exact hW.1, va_K.moved h9.alike hK, hW.2.1⟩, hW.2.2.F ht⟩) hW.2.2.2.2 dX4_putName_33
      · have c_9 : ¬ (k_8 ≤ i) := fun hh9 => c_9 ((nI_leI (a := k_8) (b := i) (by omega) (by omega)).mpr hh9)
        refine lv_aload_n hx hb dX4_putName_12 rfl (lv_at hl 1 rfl) ?_
        refine lv_aload_n hx hb dX4_putName_13 rfl (lv_at hl 2 rfl) ?_
        refine pl_get (ci := 3) (v := .ref x_2) (C := RX3) (T := TX3) (N := 4) hx hb hT iX3 hown hK hW hT_n.1 hS_n rfl 0 (by decide) w59 rfl dX4_putName_14 ?_
        refine lv_iload_n hx hb dX4_putName_17 rfl (lv_at hl 3 rfl) ?_
        refine lv_bipush (v := 8) hx hb dX4_putName_18 (by decide) ?_
        refine lv_imul hx hb dX4_putName_20 ?_
        refine lv_topi (fun z_9 ez_9 => ?_)
        obtain rfl : z_9 = nI (t * 8) := ez_9.trans (pk_mul (t) (8))
        refine lv_iload_n hx hb dX4_putName_21 rfl (lv_at hl 0 rfl) ?_
        refine lv_iadd hx hb dX4_putName_22 ?_
        refine lv_topi (fun z_10 ez_10 => ?_)
        obtain rfl : z_10 = nI ((t * 8) + i) := ez_10.trans (nI_add (t * 8) (i))
        obtain ⟨f_11, hS_x_2⟩ := hTy.k25 hT_x_2
        refine pl_bald hx hb hK hW hT_x_2.1 hS_x_2 (vp_in_nI (n := (t * 8) + i) (N := 96) (by omega) (by omega)) dX4_putName_23 ?_
        refine lv_topi (fun y_12 ey_12 => ?_)
        obtain ⟨x_13, x_14, x_15, hS_g, hT_x_13, hb_x_14, hT_x_15⟩ := hTy.k4 hT_g
        refine pl_callv (va_runV (As := [.int y_12]) (rest := []) ⟨hx, hb, hml, hown, hT⟩ (s_pput l dC dI cy L kap pr S_1 H.size g y_12 hTy hT_g) (cwV 1 hT (gV w1053 w1055 ws52 w13 w1056) rfl rfl rfl (by decide +kernel) ⟨(Nat.le_of_ble_eq_true rfl), (Nat.le_of_ble_eq_true rfl)⟩) ⟨pcN.blind, pl_recv hK hW hT_g.1 hS_g rfl, pcN.pre hW.1 hK hW.2.1 hN (fun q h => absurd h List.not_mem_nil)⟩ rfl rfl hl.1 rfl (lv_room (Nat.le_of_ble_eq_true rfl)) dX4_putName_24 ⟨(Nat.le_of_ble_eq_true rfl), (Nat.le_of_ble_eq_true rfl)⟩) hW hA0 hA (fun S_16 H locs hrel hW => ?_)
        obtain ⟨hTy, hF1⟩ := hrel
        have hFr := hFr.tr hF1 (by decide)
        have hFl2 := hFl2.tr hF1 (by decide)
        have hS_n := hF1.at hT_n (by decide) hS_n
        have hS_x_3 := hF1.at hT_x_3 (by decide) hS_x_3
        have hS_x_2 := hF1.at hT_x_2 (by decide) hS_x_2
        refine lv_iinc (v := nI (i + 1)) (lv' := [(3, .int (nI (i + 1))), (0, .ref g), (1, .ref n), (2, .int (nI t))]) hx hb dX4_putName_27 hl (k := 0) rfl (nI_add (i) 1) (by decide) rfl (fun ls hl => ?_)
        refine lv_goto (tgt := 2) hx hb dX4_putName_30 (by decide) ?_
        exact ih2 (i + 1) _ _ _ ls (by omega) (by omega) hTy hFr hFl2 hW (lv_sub hl [0, 1, 2, 3] rfl)
  exact loop ((9 - 0) + 1) 0 _ _ _ ls (Nat.lt_succ_self _) (by omega) hTy hFr Fr.rf hW (lv_sub hl [0, 1, 2, 3] rfl)

set_option maxHeartbeats 4000000 in
set_option maxRecDepth 100000 in
theorem s_putNumber (l : Launch) (dC : Nat → ClassId) (dI : Nat → Nat → Nat) (cy : Nat → ClassId) (L : List Nat) (kap : Nat → Nat) (pr : Pr) (S : Nat → va_E) (sz : Nat) (g : Nat) (x : Int64) (hTy : Ty cy L kap pr S) (hT_g : TK L kap g 4) : Met l yX4_putNumber (wT yX4_putNumber cX4_putNumber 7 none) ({ frames := 1, cells := 0, slots := 0, locals := 21 }) (pcN dC dI [.ref g, .long x] sz (va_pl L S) (cyT cy) NLs []) (va_Qv (fun S' => Ty cy L kap pr S' ∧ Fr kap [4, 40, 41] S S') (fun S' t => pB dC dI (AL L sz) (va_pl L S') (cyT cy) t) (AL L sz)) 0 0 (AL L sz) := by
  refine Met.ofW (cc := cX4_putNumber) (maxL := 7) (ret := none) (by decide) rfl ?_
  intro p e s m args below meth c s₁ B hml hv
  obtain ⟨rfl, hsz, hP, hK, hD0, hN, -⟩ := hv
  have hx := B.exec
  have hb := B.bytes
  have hr := B.returns
  have hT : ∀ wd ∈ TB, wd.before [.ref g, .long x].toArray s = true := fun wd h => atoms_spec (ws := wT yX4_putNumber cX4_putNumber 7 none) B.pre wd (List.mem_cons_of_mem _ h)
  have hown : s.vm.findClass RX4 = some m.cls := findClass_of_methodNamed B.named
  have hlocks := B.notSynchronized
  subst hsz
  have hW : PW dC dI L (AL L s.heap.size) s.heap S s.heap [] := ⟨hP, pl_self hD0, va_S.rf⟩
  have hA0 : ∀ q, q ∈ L → AL L s.heap.size q := fun _ h => Or.inl h
  have hA : ∀ q, s.heap.size ≤ q → AL L s.heap.size q := fun _ h => Or.inr h
  have hFr : Fr kap [4, 40, 41] S S := Fr.rf
  have hl := lv_entry ([.ref g, .long x]) (n := 7) (Nat.le_of_ble_eq_true rfl)
  rw [lg_entry_eq]
  generalize (lg_sl ([.ref g, .long x]) ++ List.replicate (7 - (lg_sl ([.ref g, .long x])).length) Slot.unset).toArray = ls at hl ⊢
  have hl : lv_has ls 7 [(0, .ref g), (1, .long x)] := hl
  refine lv_iconst (v := 0) hx hb dX4_putNumber_0 (by decide) ?_
  refine lv_istore_n (lv' := [(3, .int 0), (0, .ref g), (1, .long x)]) hx hb dX4_putNumber_1 rfl hl (by decide) rfl (fun ls hl => ?_)
  refine lv_lload_n hx hb dX4_putNumber_2 rfl (lv_at hl 2 rfl) ?_
  refine lv_lstore (lv' := [(4, .long x), (3, .int 0), (0, .ref g), (1, .long x)]) hx hb dX4_putNumber_3 hl (by decide) rfl (fun ls hl => ?_)
  have loop : ∀ (fuel : Nat) (i : Nat) (rs : Int64) (SS : Nat → va_E) (H : Heap) (locs : List Loc) (ls : Array Slot), 19 - i < fuel → (i ≤ 18) → Ty cy L kap pr SS → Fr kap [4, 40, 41] S SS → Fr kap [4, 40, 41] S SS → PW dC dI L (AL L s.heap.size) s.heap SS H locs → lv_has ls 7 [(4, .long rs), (3, .int (nI i)), (0, .ref g), (1, .long x)] → W p l e (headSpec (wT yX4_putNumber cX4_putNumber 7 none) { frames := 1, cells := 0, slots := 0, locals := 21 }).room s m [.ref g, .long x].toArray below meth c H locs 0 0 (MQ below (va_Qv (fun S' => Ty cy L kap pr S' ∧ Fr kap [4, 40, 41] S S') (fun S' t => pB dC dI (AL L s.heap.size) (va_pl L S') (cyT cy) t) (AL L s.heap.size)) [.ref g, .long x].toArray s 0 0 (AL L s.heap.size)) (F0 m 5 ls []) := by
    intro fuel
    induction fuel with
    | zero => intro i rs SS H locs ls h; exact absurd h (Nat.not_lt_zero _)
    | succ fu5 ih5 =>
      intro i rs S_1 H locs ls hm5 hb_i hTy hFr hFl5 hW hl
      refine lv_aload_n hx hb dX4_putNumber_5 rfl (lv_at hl 2 rfl) ?_
      obtain ⟨x_2, x_3, x_4, hS_g, hT_x_2, hb_x_3, hT_x_4⟩ := hTy.k4 hT_g
      refine pl_get (ci := 4) (v := .ref x_4) (C := RX4) (T := TX4) (N := 3) hx hb hT iX4 hown hK hW hT_g.1 hS_g rfl 2 (by decide) w341 rfl dX4_putNumber_6 ?_
      refine lv_iload_n hx hb dX4_putNumber_9 rfl (lv_at hl 1 rfl) ?_
      refine lv_ldc2 (v := 48) hx hb hown (hT _ w1061) dX4_putNumber_10 ?_
      refine lv_lload hx hb dX4_putNumber_13 (lv_at hl 0 rfl) ?_
      refine lv_ldc2 (v := 10) hx hb hown (hT _ w1062) dX4_putNumber_15 ?_
      refine lv_lrem hx hb dX4_putNumber_18 (by decide) ?_
      refine lv_topl (fun z_5 ez_5 => ?_)
      refine lv_ladd hx hb dX4_putNumber_19 ?_
      refine lv_topl (fun z_6 ez_6 => ?_)
      refine lv_l2i hx hb dX4_putNumber_20 rfl ?_
      refine lv_topi (fun z_7 ez_7 => ?_)
      refine lv_i2b hx hb dX4_putNumber_21 rfl ?_
      refine lv_topi (fun z_8 ez_8 => ?_)
      obtain ⟨f_9, hS_x_4⟩ := hTy.k41 hT_x_4
      refine pl_bast hx hb hK hW hT_x_4.1 hS_x_4 (vp_in_nI (n := i) (N := 19) (by omega) (by omega)) dX4_putNumber_22 (fun H locs f_11 S_10 ef_f_11 e1 hW => ?_)
      have hTy := hTy.u41 e1 hT_x_4 ⟨f_11, rfl⟩
      have hS_g := un e1 hT_g hT_x_4 (by decide) hS_g
      have hFr := uf hFr e1 hT_x_4 (by decide) (by decide)
      have hFl5 := uf hFl5 e1 hT_x_4 (by decide) (by decide)
      have hS_x_4 := us e1
      refine lv_lload hx hb dX4_putNumber_23 (lv_at hl 0 rfl) ?_
      refine lv_ldc2 (v := 10) hx hb hown (hT _ w1062) dX4_putNumber_25 ?_
      refine lv_ldiv hx hb dX4_putNumber_28 (by decide) ?_
      refine lv_topl (fun z_12 ez_12 => ?_)
      refine lv_lstore (lv' := [(4, .long z_12), (3, .int (nI i)), (0, .ref g), (1, .long x)]) hx hb dX4_putNumber_29 hl (by decide) rfl (fun ls hl => ?_)
      refine lv_iinc (v := nI (i + 1)) (lv' := [(3, .int (nI (i + 1))), (4, .long z_12), (0, .ref g), (1, .long x)]) hx hb dX4_putNumber_31 hl (k := 1) rfl (nI_add (i) 1) (by decide) rfl (fun ls hl => ?_)
      refine lv_lload hx hb dX4_putNumber_34 (lv_at hl 1 rfl) ?_
      refine lv_lconst (v := 0) hx hb dX4_putNumber_36 (by decide) ?_
      refine W.lcmp hx hb dX4_putNumber_37 ?_
      refine lv_if_le (tgt := 47) hx hb dX4_putNumber_38 (by decide) (fun c_38 => ?_) (fun c_38 => ?_)
      · refine lv_iload_n hx hb dX4_putNumber_47 rfl (lv_at hl 0 rfl) ?_
        refine lv_iconst (v := 1) hx hb dX4_putNumber_48 (by decide) ?_
        refine lv_isub hx hb dX4_putNumber_49 ?_
        refine lv_topi (fun z_13 ez_13 => ?_)
        obtain rfl : z_13 = pd (i + 1) := ez_13
        refine lv_istore (lv' := [(6, .int (pd (i + 1))), (3, .int (nI (i + 1))), (4, .long z_12), (0, .ref g), (1, .long x)]) hx hb dX4_putNumber_50 hl (by decide) rfl (fun ls hl => ?_)
        have loop : ∀ (fuel : Nat) (j : Nat) (SS : Nat → va_E) (H : Heap) (locs : List Loc) (ls : Array Slot), j < fuel → (j ≤ 19) → Ty cy L kap pr SS → Fr kap [4, 40, 41] S SS → Fr kap [4, 40, 41] S_10 SS → PW dC dI L (AL L s.heap.size) s.heap SS H locs → lv_has ls 7 [(6, .int (pd j)), (3, .int (nI (i + 1))), (4, .long z_12), (0, .ref g), (1, .long x)] → W p l e (headSpec (wT yX4_putNumber cX4_putNumber 7 none) { frames := 1, cells := 0, slots := 0, locals := 21 }).room s m [.ref g, .long x].toArray below meth c H locs 0 0 (MQ below (va_Qv (fun S' => Ty cy L kap pr S' ∧ Fr kap [4, 40, 41] S S') (fun S' t => pB dC dI (AL L s.heap.size) (va_pl L S') (cyT cy) t) (AL L s.heap.size)) [.ref g, .long x].toArray s 0 0 (AL L s.heap.size)) (F0 m 52 ls []) := by
          intro fuel
          induction fuel with
          | zero => intro j SS H locs ls h; exact absurd h (Nat.not_lt_zero _)
          | succ fu52 ih52 =>
            intro j S_14 H locs ls hm52 hb_j hTy hFr hFl52 hW hl
            have hFl5 := hFl5.tr hFl52 (by decide)
            refine lv_iload hx hb dX4_putNumber_52 (lv_at hl 0 rfl) ?_
            refine lv_if_lt (tgt := 74) hx hb dX4_putNumber_54 (by decide) (fun c_54 => ?_) (fun c_54 => ?_)
            · have c_54 : j = 0 := (pd_lt (by omega)).mp c_54
              exact W.vret hx hb hr (fun t ht h9 => ⟨⟨S_14, rfl, ⟨hTy, hFr⟩, by rw [ht]; exact hW.1, va_K.moved h9.alike hK, hW.2.1⟩, hW.2.2.F ht⟩) hW.2.2.2.2 dX4_putNumber_74
            · have c_54 : 0 < j := pd_p (by omega) c_54
              obtain ⟨j_15, rfl⟩ : ∃ w9, j = w9 + 1 := ⟨j - 1, by omega⟩
              rw [pd_s] at hl
              refine lv_aload_n hx hb dX4_putNumber_57 rfl (lv_at hl 3 rfl) ?_
              refine lv_aload_n hx hb dX4_putNumber_58 rfl (lv_at hl 3 rfl) ?_
              obtain ⟨x_16, x_17, x_18, hS_g, hT_x_16, hb_x_17, hT_x_18⟩ := hTy.k4 hT_g
              refine pl_get (ci := 4) (v := .ref x_18) (C := RX4) (T := TX4) (N := 3) hx hb hT iX4 hown hK hW hT_g.1 hS_g rfl 2 (by decide) w341 rfl dX4_putNumber_59 ?_
              refine lv_iload hx hb dX4_putNumber_62 (lv_at hl 0 rfl) ?_
              obtain ⟨f_19, hS_x_18⟩ := hTy.k41 hT_x_18
              refine pl_bald hx hb hK hW hT_x_18.1 hS_x_18 (vp_in_nI (n := j_15) (N := 19) (by omega) (by omega)) dX4_putNumber_64 ?_
              refine lv_topi (fun y_20 ey_20 => ?_)
              refine pl_callv (va_runV (As := [.int y_20]) (rest := []) ⟨hx, hb, hml, hown, hT⟩ (s_pput l dC dI cy L kap pr S_14 H.size g y_20 hTy hT_g) (cwV 1 hT (gV w1053 w1055 ws52 w13 w1056) rfl rfl rfl (by decide +kernel) ⟨(Nat.le_of_ble_eq_true rfl), (Nat.le_of_ble_eq_true rfl)⟩) ⟨pcN.blind, pl_recv hK hW hT_g.1 hS_g rfl, pcN.pre hW.1 hK hW.2.1 hN (fun q h => absurd h List.not_mem_nil)⟩ rfl rfl hl.1 rfl (lv_room (Nat.le_of_ble_eq_true rfl)) dX4_putNumber_65 ⟨(Nat.le_of_ble_eq_true rfl), (Nat.le_of_ble_eq_true rfl)⟩) hW hA0 hA (fun S_21 H locs hrel hW => ?_)
              obtain ⟨hTy, hF1⟩ := hrel
              have hFr := hFr.tr hF1 (by decide)
              have hFl5 := hFl5.tr hF1 (by decide)
              have hFl52 := hFl52.tr hF1 (by decide)
              have hS_x_18 := hF1.at hT_x_18 (by decide) hS_x_18
              refine lv_iinc (v := pd j_15) (lv' := [(6, .int (pd j_15)), (3, .int (nI (i + 1))), (4, .long z_12), (0, .ref g), (1, .long x)]) hx hb dX4_putNumber_68 hl (k := 0) rfl (pd_dec _) (by decide) rfl (fun ls hl => ?_)
              refine lv_goto (tgt := 52) hx hb dX4_putNumber_71 (by decide) ?_
              exact ih52 j_15 _ _ _ ls (by omega) (by omega) hTy hFr hFl52 hW (lv_sub hl [0, 1, 2, 3, 4] rfl)
        exact loop (((i + 1)) + 1) (i + 1) _ _ _ ls (Nat.lt_succ_self _) (by omega) hTy hFr Fr.rf hW (lv_sub hl [0, 1, 2, 3, 4] rfl)
      · refine lv_iload_n hx hb dX4_putNumber_41 rfl (lv_at hl 0 rfl) ?_
        refine lv_bipush (v := 19) hx hb dX4_putNumber_42 (by decide) ?_
        refine lv_icmp_lt (tgt := 5) hx hb dX4_putNumber_44 (by decide) (fun c_44 => ?_) (fun c_44 => ?_)
        · have c_44 : (i + 1) < 19 := (nI_ltI (a := i + 1) (b := 19) (by omega) (by omega)).mp c_44
          exact ih5 (i + 1) z_12 _ _ _ ls (by omega) (by omega) hTy hFr hFl5 hW (lv_sub hl [1, 0, 2, 3] rfl)
        · have c_44 : ¬ ((i + 1) < 19) := fun hh9 => c_44 ((nI_ltI (a := i + 1) (b := 19) (by omega) (by omega)).mpr hh9)
          refine lv_iload_n hx hb dX4_putNumber_47 rfl (lv_at hl 0 rfl) ?_
          refine lv_iconst (v := 1) hx hb dX4_putNumber_48 (by decide) ?_
          refine lv_isub hx hb dX4_putNumber_49 ?_
          refine lv_topi (fun z_22 ez_22 => ?_)
          obtain rfl : z_22 = pd (i + 1) := ez_22
          refine lv_istore (lv' := [(6, .int (pd (i + 1))), (3, .int (nI (i + 1))), (4, .long z_12), (0, .ref g), (1, .long x)]) hx hb dX4_putNumber_50 hl (by decide) rfl (fun ls hl => ?_)
          have loop : ∀ (fuel : Nat) (j : Nat) (SS : Nat → va_E) (H : Heap) (locs : List Loc) (ls : Array Slot), j < fuel → (j ≤ 19) → Ty cy L kap pr SS → Fr kap [4, 40, 41] S SS → Fr kap [4, 40, 41] S_10 SS → PW dC dI L (AL L s.heap.size) s.heap SS H locs → lv_has ls 7 [(6, .int (pd j)), (3, .int (nI (i + 1))), (4, .long z_12), (0, .ref g), (1, .long x)] → W p l e (headSpec (wT yX4_putNumber cX4_putNumber 7 none) { frames := 1, cells := 0, slots := 0, locals := 21 }).room s m [.ref g, .long x].toArray below meth c H locs 0 0 (MQ below (va_Qv (fun S' => Ty cy L kap pr S' ∧ Fr kap [4, 40, 41] S S') (fun S' t => pB dC dI (AL L s.heap.size) (va_pl L S') (cyT cy) t) (AL L s.heap.size)) [.ref g, .long x].toArray s 0 0 (AL L s.heap.size)) (F0 m 52 ls []) := by
            intro fuel
            induction fuel with
            | zero => intro j SS H locs ls h; exact absurd h (Nat.not_lt_zero _)
            | succ fu52 ih52 =>
              intro j S_23 H locs ls hm52 hb_j hTy hFr hFl52 hW hl
              have hFl5 := hFl5.tr hFl52 (by decide)
              refine lv_iload hx hb dX4_putNumber_52 (lv_at hl 0 rfl) ?_
              refine lv_if_lt (tgt := 74) hx hb dX4_putNumber_54 (by decide) (fun c_54 => ?_) (fun c_54 => ?_)
              · have c_54 : j = 0 := (pd_lt (by omega)).mp c_54
                exact W.vret hx hb hr (fun t ht h9 => ⟨⟨S_23, rfl, ⟨hTy, hFr⟩, by rw [ht]; exact hW.1, va_K.moved h9.alike hK, hW.2.1⟩, hW.2.2.F ht⟩) hW.2.2.2.2 dX4_putNumber_74
              · have c_54 : 0 < j := pd_p (by omega) c_54
                obtain ⟨j_24, rfl⟩ : ∃ w9, j = w9 + 1 := ⟨j - 1, by omega⟩
                rw [pd_s] at hl
                refine lv_aload_n hx hb dX4_putNumber_57 rfl (lv_at hl 3 rfl) ?_
                refine lv_aload_n hx hb dX4_putNumber_58 rfl (lv_at hl 3 rfl) ?_
                obtain ⟨x_25, x_26, x_27, hS_g, hT_x_25, hb_x_26, hT_x_27⟩ := hTy.k4 hT_g
                refine pl_get (ci := 4) (v := .ref x_27) (C := RX4) (T := TX4) (N := 3) hx hb hT iX4 hown hK hW hT_g.1 hS_g rfl 2 (by decide) w341 rfl dX4_putNumber_59 ?_
                refine lv_iload hx hb dX4_putNumber_62 (lv_at hl 0 rfl) ?_
                obtain ⟨f_28, hS_x_27⟩ := hTy.k41 hT_x_27
                refine pl_bald hx hb hK hW hT_x_27.1 hS_x_27 (vp_in_nI (n := j_24) (N := 19) (by omega) (by omega)) dX4_putNumber_64 ?_
                refine lv_topi (fun y_29 ey_29 => ?_)
                refine pl_callv (va_runV (As := [.int y_29]) (rest := []) ⟨hx, hb, hml, hown, hT⟩ (s_pput l dC dI cy L kap pr S_23 H.size g y_29 hTy hT_g) (cwV 1 hT (gV w1053 w1055 ws52 w13 w1056) rfl rfl rfl (by decide +kernel) ⟨(Nat.le_of_ble_eq_true rfl), (Nat.le_of_ble_eq_true rfl)⟩) ⟨pcN.blind, pl_recv hK hW hT_g.1 hS_g rfl, pcN.pre hW.1 hK hW.2.1 hN (fun q h => absurd h List.not_mem_nil)⟩ rfl rfl hl.1 rfl (lv_room (Nat.le_of_ble_eq_true rfl)) dX4_putNumber_65 ⟨(Nat.le_of_ble_eq_true rfl), (Nat.le_of_ble_eq_true rfl)⟩) hW hA0 hA (fun S_30 H locs hrel hW => ?_)
                obtain ⟨hTy, hF1⟩ := hrel
                have hFr := hFr.tr hF1 (by decide)
                have hFl5 := hFl5.tr hF1 (by decide)
                have hFl52 := hFl52.tr hF1 (by decide)
                have hS_x_27 := hF1.at hT_x_27 (by decide) hS_x_27
                refine lv_iinc (v := pd j_24) (lv' := [(6, .int (pd j_24)), (3, .int (nI (i + 1))), (4, .long z_12), (0, .ref g), (1, .long x)]) hx hb dX4_putNumber_68 hl (k := 0) rfl (pd_dec _) (by decide) rfl (fun ls hl => ?_)
                refine lv_goto (tgt := 52) hx hb dX4_putNumber_71 (by decide) ?_
                exact ih52 j_24 _ _ _ ls (by omega) (by omega) hTy hFr hFl52 hW (lv_sub hl [0, 1, 2, 3, 4] rfl)
          exact loop (((i + 1)) + 1) (i + 1) _ _ _ ls (Nat.lt_succ_self _) (by omega) hTy hFr Fr.rf hW (lv_sub hl [0, 1, 2, 3, 4] rfl)
  exact loop ((19 - 0) + 1) 0 x _ _ _ ls (Nat.lt_succ_self _) (by omega) hTy hFr Fr.rf hW (lv_sub hl [0, 1, 2, 3] rfl)

set_option maxHeartbeats 4000000 in
set_option maxRecDepth 100000 in
theorem s_write (l : Launch) (dC : Nat → ClassId) (dI : Nat → Nat → Nat) (cy : Nat → ClassId) (L : List Nat) (kap : Nat → Nat) (pr : Pr) (S : Nat → va_E) (sz : Nat) (g : Nat) (n : Nat) (b : Nat) (t : Nat) (hTy : Ty cy L kap pr S) (hT_g : TK L kap g 4) (hT_n : TK L kap n 3) (hT_b : TK L kap b 0) (hb_t : t < 40) : Met l yX4_write (wT yX4_write cX4_write 4 none) ({ frames := 2, cells := 0, slots := 0, locals := 47 }) (pcN dC dI [.ref g, .ref n, .ref b, .int (nI t)] sz (va_pl L S) (cyT cy) NLs []) (va_Qv (fun S' => Ty cy L kap pr S' ∧ Fr kap [4, 40, 41] S S') (fun S' t => pB dC dI (AL L sz) (va_pl L S') (cyT cy) t) (AL L sz)) 0 0 (AL L sz) := by
  refine Met.ofW (cc := cX4_write) (maxL := 4) (ret := none) (by decide) rfl ?_
  intro p e s m args below meth c s₁ B hml hv
  obtain ⟨rfl, hsz, hP, hK, hD0, hN, -⟩ := hv
  have hx := B.exec
  have hb := B.bytes
  have hr := B.returns
  have hT : ∀ wd ∈ TB, wd.before [.ref g, .ref n, .ref b, .int (nI t)].toArray s = true := fun wd h => atoms_spec (ws := wT yX4_write cX4_write 4 none) B.pre wd (List.mem_cons_of_mem _ h)
  have hown : s.vm.findClass RX4 = some m.cls := findClass_of_methodNamed B.named
  have hlocks := B.notSynchronized
  subst hsz
  have hW : PW dC dI L (AL L s.heap.size) s.heap S s.heap [] := ⟨hP, pl_self hD0, va_S.rf⟩
  have hA0 : ∀ q, q ∈ L → AL L s.heap.size q := fun _ h => Or.inl h
  have hA : ∀ q, s.heap.size ≤ q → AL L s.heap.size q := fun _ h => Or.inr h
  have hFr : Fr kap [4, 40, 41] S S := Fr.rf
  have hl := lv_entry ([.ref g, .ref n, .ref b, .int (nI t)]) (n := 4) (Nat.le_of_ble_eq_true rfl)
  rw [lg_entry_eq]
  generalize (lg_sl ([.ref g, .ref n, .ref b, .int (nI t)]) ++ List.replicate (4 - (lg_sl ([.ref g, .ref n, .ref b, .int (nI t)])).length) Slot.unset).toArray = ls at hl ⊢
  have hl : lv_has ls 4 [(0, .ref g), (1, .ref n), (2, .ref b), (3, .int (nI t))] := hl
  refine lv_aload_n hx hb dX4_write_0 rfl (lv_at hl 0 rfl) ?_
  refine lv_iconst (v := 0) hx hb dX4_write_1 (by decide) ?_
  obtain ⟨x_1, x_2, x_3, hS_g, hT_x_1, hb_x_2, hT_x_3⟩ := hTy.k4 hT_g
  refine pl_put (ci := 4) (v := .int 0) (ty := .int) (C := RX4) (T := TX4) (N := 3) (fs' := [.ref x_1, .int 0, .ref x_3]) hx hb hT iX4 tyX4 tyX4_ok nmX4 hown hK hW hT_g.1 hS_g rfl 1 (by decide) w339 rfl (by decide +kernel) rfl rfl (Nat.le_of_ble_eq_true rfl) rfl dX4_write_2 (fun H locs S_4 e1 hW => ?_)
  have hTy := hTy.u4 e1 hT_g ⟨x_1, 0, x_3, rfl, hT_x_1, (by omega), hT_x_3⟩
  have hFr := uf hFr e1 hT_g (by decide) (by decide)
  have hS_g := us e1
  refine lv_aload_n hx hb dX4_write_5 rfl (lv_at hl 0 rfl) ?_
  refine lv_aload_n hx hb dX4_write_6 rfl (lv_at hl 1 rfl) ?_
  refine lv_aload_n hx hb dX4_write_7 rfl (lv_at hl 2 rfl) ?_
  obtain ⟨x_5, x_6, x_7, x_8, x_9, x_10, x_11, x_12, hS_b, hT_x_5, hT_x_6, hT_x_7, hT_x_8, hT_x_9, hT_x_10, hb_x_11⟩ := hTy.k0 hT_b
  refine pl_get (ci := 0) (v := .ref x_5) (C := RX0) (T := TX0) (N := 8) hx hb hT iX0 hown hK hW hT_b.1 hS_b rfl 0 (by decide) w89 rfl dX4_write_8 ?_
  refine lv_iload_n hx hb dX4_write_11 rfl (lv_at hl 3 rfl) ?_
  obtain ⟨f_13, hS_x_5, hi_f_13⟩ := hTy.k20 hT_x_5
  refine pl_iald hx hb hK hW hT_x_5.1 hS_x_5 (vp_in_nI (n := t) (N := 40) (by omega) (by omega)) dX4_write_12 ?_
  refine lv_topi (fun y_14 ey_14 => ?_)
  obtain ⟨k_15, hb_k_15, hq_k_15⟩ := hi_f_13 (t) (by omega)
  obtain rfl : y_14 = nI k_15 := ey_14.trans (by show f_13 (nI (t)).toNatClampNeg = _; rw [nI_clamp (by omega)]; exact hq_k_15)
  refine pl_callv (va_runV (As := [.ref n, .int (nI k_15)]) (rest := []) ⟨hx, hb, hml, hown, hT⟩ (s_putName l dC dI cy L kap pr S_4 H.size g n k_15 hTy hT_g hT_n (by omega)) (cwV 2 hT (gV w1049 w1051 ws51 w13 w1052) rfl rfl rfl (by decide +kernel) ⟨(Nat.le_of_ble_eq_true rfl), (Nat.le_of_ble_eq_true rfl)⟩) ⟨pcN.blind, pl_recv hK hW hT_g.1 hS_g rfl, pcN.pre hW.1 hK hW.2.1 hN (fun q h => absurd h List.not_mem_nil)⟩ rfl rfl hl.1 rfl (lv_room (Nat.le_of_ble_eq_true rfl)) dX4_write_13 ⟨(Nat.le_of_ble_eq_true rfl), (Nat.le_of_ble_eq_true rfl)⟩) hW hA0 hA (fun S_16 H locs hrel hW => ?_)
  obtain ⟨hTy, hF1⟩ := hrel
  have hFr := hFr.tr hF1 (by decide)
  have hS_b := hF1.at hT_b (by decide) hS_b
  have hS_x_5 := hF1.at hT_x_5 (by decide) hS_x_5
  refine lv_aload_n hx hb dX4_write_16 rfl (lv_at hl 0 rfl) ?_
  refine lv_bipush (v := 62) hx hb dX4_write_17 (by decide) ?_
  obtain ⟨x_17, x_18, x_19, hS_g, hT_x_17, hb_x_18, hT_x_19⟩ := hTy.k4 hT_g
  refine pl_callv (va_runV (As := [.int 62]) (rest := []) ⟨hx, hb, hml, hown, hT⟩ (s_pput l dC dI cy L kap pr S_16 H.size g 62 hTy hT_g) (cwV 1 hT (gV w1053 w1055 ws52 w13 w1056) rfl rfl rfl (by decide +kernel) ⟨(Nat.le_of_ble_eq_true rfl), (Nat.le_of_ble_eq_true rfl)⟩) ⟨pcN.blind, pl_recv hK hW hT_g.1 hS_g rfl, pcN.pre hW.1 hK hW.2.1 hN (fun q h => absurd h List.not_mem_nil)⟩ rfl rfl hl.1 rfl (lv_room (Nat.le_of_ble_eq_true rfl)) dX4_write_19 ⟨(Nat.le_of_ble_eq_true rfl), (Nat.le_of_ble_eq_true rfl)⟩) hW hA0 hA (fun S_20 H locs hrel hW => ?_)
  obtain ⟨hTy, hF1⟩ := hrel
  have hFr := hFr.tr hF1 (by decide)
  have hS_b := hF1.at hT_b (by decide) hS_b
  have hS_x_5 := hF1.at hT_x_5 (by decide) hS_x_5
  refine lv_aload_n hx hb dX4_write_22 rfl (lv_at hl 0 rfl) ?_
  refine lv_aload_n hx hb dX4_write_23 rfl (lv_at hl 1 rfl) ?_
  refine lv_aload_n hx hb dX4_write_24 rfl (lv_at hl 2 rfl) ?_
  refine pl_get (ci := 0) (v := .ref x_6) (C := RX0) (T := TX0) (N := 8) hx hb hT iX0 hown hK hW hT_b.1 hS_b rfl 1 (by decide) w93 rfl dX4_write_25 ?_
  refine lv_iload_n hx hb dX4_write_28 rfl (lv_at hl 3 rfl) ?_
  obtain ⟨f_21, hS_x_6, hi_f_21⟩ := hTy.k20 hT_x_6
  refine pl_iald hx hb hK hW hT_x_6.1 hS_x_6 (vp_in_nI (n := t) (N := 40) (by omega) (by omega)) dX4_write_29 ?_
  refine lv_topi (fun y_22 ey_22 => ?_)
  obtain ⟨k_23, hb_k_23, hq_k_23⟩ := hi_f_21 (t) (by omega)
  obtain rfl : y_22 = nI k_23 := ey_22.trans (by show f_21 (nI (t)).toNatClampNeg = _; rw [nI_clamp (by omega)]; exact hq_k_23)
  obtain ⟨x_24, x_25, x_26, hS_g, hT_x_24, hb_x_25, hT_x_26⟩ := hTy.k4 hT_g
  refine pl_callv (va_runV (As := [.ref n, .int (nI k_23)]) (rest := []) ⟨hx, hb, hml, hown, hT⟩ (s_putName l dC dI cy L kap pr S_20 H.size g n k_23 hTy hT_g hT_n (by omega)) (cwV 2 hT (gV w1049 w1051 ws51 w13 w1052) rfl rfl rfl (by decide +kernel) ⟨(Nat.le_of_ble_eq_true rfl), (Nat.le_of_ble_eq_true rfl)⟩) ⟨pcN.blind, pl_recv hK hW hT_g.1 hS_g rfl, pcN.pre hW.1 hK hW.2.1 hN (fun q h => absurd h List.not_mem_nil)⟩ rfl rfl hl.1 rfl (lv_room (Nat.le_of_ble_eq_true rfl)) dX4_write_30 ⟨(Nat.le_of_ble_eq_true rfl), (Nat.le_of_ble_eq_true rfl)⟩) hW hA0 hA (fun S_27 H locs hrel hW => ?_)
  obtain ⟨hTy, hF1⟩ := hrel
  have hFr := hFr.tr hF1 (by decide)
  have hS_b := hF1.at hT_b (by decide) hS_b
  have hS_x_5 := hF1.at hT_x_5 (by decide) hS_x_5
  have hS_x_6 := hF1.at hT_x_6 (by decide) hS_x_6
  refine lv_aload_n hx hb dX4_write_33 rfl (lv_at hl 0 rfl) ?_
  refine lv_bipush (v := 32) hx hb dX4_write_34 (by decide) ?_
  obtain ⟨x_28, x_29, x_30, hS_g, hT_x_28, hb_x_29, hT_x_30⟩ := hTy.k4 hT_g
  refine pl_callv (va_runV (As := [.int 32]) (rest := []) ⟨hx, hb, hml, hown, hT⟩ (s_pput l dC dI cy L kap pr S_27 H.size g 32 hTy hT_g) (cwV 1 hT (gV w1053 w1055 ws52 w13 w1056) rfl rfl rfl (by decide +kernel) ⟨(Nat.le_of_ble_eq_true rfl), (Nat.le_of_ble_eq_true rfl)⟩) ⟨pcN.blind, pl_recv hK hW hT_g.1 hS_g rfl, pcN.pre hW.1 hK hW.2.1 hN (fun q h => absurd h List.not_mem_nil)⟩ rfl rfl hl.1 rfl (lv_room (Nat.le_of_ble_eq_true rfl)) dX4_write_36 ⟨(Nat.le_of_ble_eq_true rfl), (Nat.le_of_ble_eq_true rfl)⟩) hW hA0 hA (fun S_31 H locs hrel hW => ?_)
  obtain ⟨hTy, hF1⟩ := hrel
  have hFr := hFr.tr hF1 (by decide)
  have hS_b := hF1.at hT_b (by decide) hS_b
  have hS_x_5 := hF1.at hT_x_5 (by decide) hS_x_5
  have hS_x_6 := hF1.at hT_x_6 (by decide) hS_x_6
  refine lv_aload_n hx hb dX4_write_39 rfl (lv_at hl 0 rfl) ?_
  refine lv_aload_n hx hb dX4_write_40 rfl (lv_at hl 2 rfl) ?_
  refine pl_get (ci := 0) (v := .ref x_8) (C := RX0) (T := TX0) (N := 8) hx hb hT iX0 hown hK hW hT_b.1 hS_b rfl 3 (by decide) w101 rfl dX4_write_41 ?_
  refine lv_iload_n hx hb dX4_write_44 rfl (lv_at hl 3 rfl) ?_
  obtain ⟨f_32, hS_x_8⟩ := hTy.k22 hT_x_8
  refine pl_lald hx hb hK hW hT_x_8.1 hS_x_8 (vp_in_nI (n := t) (N := 40) (by omega) (by omega)) dX4_write_45 ?_
  refine lv_topl (fun y_33 ey_33 => ?_)
  obtain ⟨x_34, x_35, x_36, hS_g, hT_x_34, hb_x_35, hT_x_36⟩ := hTy.k4 hT_g
  refine pl_callv (va_runV (As := [.long y_33]) (rest := []) ⟨hx, hb, hml, hown, hT⟩ (s_putNumber l dC dI cy L kap pr S_31 H.size g y_33 hTy hT_g) (cwV 1 hT (gV w1057 w1059 ws53 w13 w1060) rfl rfl rfl (by decide +kernel) ⟨(Nat.le_of_ble_eq_true rfl), (Nat.le_of_ble_eq_true rfl)⟩) ⟨pcN.blind, pl_recv hK hW hT_g.1 hS_g rfl, pcN.pre hW.1 hK hW.2.1 hN (fun q h => absurd h List.not_mem_nil)⟩ rfl rfl hl.1 rfl (lv_room (Nat.le_of_ble_eq_true rfl)) dX4_write_46 ⟨(Nat.le_of_ble_eq_true rfl), (Nat.le_of_ble_eq_true rfl)⟩) hW hA0 hA (fun S_37 H locs hrel hW => ?_)
  obtain ⟨hTy, hF1⟩ := hrel
  have hFr := hFr.tr hF1 (by decide)
  have hS_b := hF1.at hT_b (by decide) hS_b
  have hS_x_5 := hF1.at hT_x_5 (by decide) hS_x_5
  have hS_x_6 := hF1.at hT_x_6 (by decide) hS_x_6
  have hS_x_8 := hF1.at hT_x_8 (by decide) hS_x_8
  refine lv_aload_n hx hb dX4_write_49 rfl (lv_at hl 0 rfl) ?_
  refine lv_bipush (v := 32) hx hb dX4_write_50 (by decide) ?_
  obtain ⟨x_38, x_39, x_40, hS_g, hT_x_38, hb_x_39, hT_x_40⟩ := hTy.k4 hT_g
  refine pl_callv (va_runV (As := [.int 32]) (rest := []) ⟨hx, hb, hml, hown, hT⟩ (s_pput l dC dI cy L kap pr S_37 H.size g 32 hTy hT_g) (cwV 1 hT (gV w1053 w1055 ws52 w13 w1056) rfl rfl rfl (by decide +kernel) ⟨(Nat.le_of_ble_eq_true rfl), (Nat.le_of_ble_eq_true rfl)⟩) ⟨pcN.blind, pl_recv hK hW hT_g.1 hS_g rfl, pcN.pre hW.1 hK hW.2.1 hN (fun q h => absurd h List.not_mem_nil)⟩ rfl rfl hl.1 rfl (lv_room (Nat.le_of_ble_eq_true rfl)) dX4_write_52 ⟨(Nat.le_of_ble_eq_true rfl), (Nat.le_of_ble_eq_true rfl)⟩) hW hA0 hA (fun S_41 H locs hrel hW => ?_)
  obtain ⟨hTy, hF1⟩ := hrel
  have hFr := hFr.tr hF1 (by decide)
  have hS_b := hF1.at hT_b (by decide) hS_b
  have hS_x_5 := hF1.at hT_x_5 (by decide) hS_x_5
  have hS_x_6 := hF1.at hT_x_6 (by decide) hS_x_6
  have hS_x_8 := hF1.at hT_x_8 (by decide) hS_x_8
  refine lv_aload_n hx hb dX4_write_55 rfl (lv_at hl 0 rfl) ?_
  refine lv_aload_n hx hb dX4_write_56 rfl (lv_at hl 1 rfl) ?_
  refine lv_bipush (v := 8) hx hb dX4_write_57 (by decide) ?_
  refine lv_aload_n hx hb dX4_write_59 rfl (lv_at hl 2 rfl) ?_
  refine pl_get (ci := 0) (v := .ref x_7) (C := RX0) (T := TX0) (N := 8) hx hb hT iX0 hown hK hW hT_b.1 hS_b rfl 2 (by decide) w98 rfl dX4_write_60 ?_
  refine lv_iload_n hx hb dX4_write_63 rfl (lv_at hl 3 rfl) ?_
  obtain ⟨f_42, hS_x_7, hi_f_42⟩ := hTy.k21 hT_x_7
  refine pl_iald hx hb hK hW hT_x_7.1 hS_x_7 (vp_in_nI (n := t) (N := 40) (by omega) (by omega)) dX4_write_64 ?_
  refine lv_topi (fun y_43 ey_43 => ?_)
  obtain ⟨k_44, hb_k_44, hq_k_44⟩ := hi_f_42 (t) (by omega)
  obtain rfl : y_43 = nI k_44 := ey_43.trans (by show f_42 (nI (t)).toNatClampNeg = _; rw [nI_clamp (by omega)]; exact hq_k_44)
  refine lv_iadd hx hb dX4_write_65 ?_
  refine lv_topi (fun z_45 ez_45 => ?_)
  obtain rfl : z_45 = nI (8 + k_44) := ez_45.trans (nI_add (8) (k_44))
  obtain ⟨x_46, x_47, x_48, hS_g, hT_x_46, hb_x_47, hT_x_48⟩ := hTy.k4 hT_g
  refine pl_callv (va_runV (As := [.ref n, .int (nI (8 + k_44))]) (rest := []) ⟨hx, hb, hml, hown, hT⟩ (s_putName l dC dI cy L kap pr S_41 H.size g n (8 + k_44) hTy hT_g hT_n (by omega)) (cwV 2 hT (gV w1049 w1051 ws51 w13 w1052) rfl rfl rfl (by decide +kernel) ⟨(Nat.le_of_ble_eq_true rfl), (Nat.le_of_ble_eq_true rfl)⟩) ⟨pcN.blind, pl_recv hK hW hT_g.1 hS_g rfl, pcN.pre hW.1 hK hW.2.1 hN (fun q h => absurd h List.not_mem_nil)⟩ rfl rfl hl.1 rfl (lv_room (Nat.le_of_ble_eq_true rfl)) dX4_write_66 ⟨(Nat.le_of_ble_eq_true rfl), (Nat.le_of_ble_eq_true rfl)⟩) hW hA0 hA (fun S_49 H locs hrel hW => ?_)
  obtain ⟨hTy, hF1⟩ := hrel
  have hFr := hFr.tr hF1 (by decide)
  have hS_b := hF1.at hT_b (by decide) hS_b
  have hS_x_5 := hF1.at hT_x_5 (by decide) hS_x_5
  have hS_x_6 := hF1.at hT_x_6 (by decide) hS_x_6
  have hS_x_8 := hF1.at hT_x_8 (by decide) hS_x_8
  have hS_x_7 := hF1.at hT_x_7 (by decide) hS_x_7
  refine lv_aload_n hx hb dX4_write_69 rfl (lv_at hl 2 rfl) ?_
  refine pl_get (ci := 0) (v := .ref x_9) (C := RX0) (T := TX0) (N := 8) hx hb hT iX0 hown hK hW hT_b.1 hS_b rfl 4 (by decide) w106 rfl dX4_write_70 ?_
  refine lv_iload_n hx hb dX4_write_73 rfl (lv_at hl 3 rfl) ?_
  obtain ⟨f_50, hS_x_9⟩ := hTy.k23 hT_x_9
  refine pl_zald hx hb hK hW hT_x_9.1 hS_x_9 (vp_in_nI (n := t) (N := 40) (by omega) (by omega)) dX4_write_74 ?_
  refine lv_topi (fun y_51 ey_51 => ?_)
  refine lv_if_eq (tgt := 90) hx hb dX4_write_75 (by decide) (fun c_75 => ?_) (fun c_75 => ?_)
  · exact W.vret hx hb hr (fun t ht h9 => ⟨⟨S_49, rfl, ⟨hTy, hFr⟩, by rw [ht]; exact hW.1, va_K.moved h9.alike hK, hW.2.1⟩, hW.2.2.F ht⟩) hW.2.2.2.2 dX4_write_90
  · refine lv_aload_n hx hb dX4_write_78 rfl (lv_at hl 0 rfl) ?_
    refine lv_bipush (v := 32) hx hb dX4_write_79 (by decide) ?_
    obtain ⟨x_52, x_53, x_54, hS_g, hT_x_52, hb_x_53, hT_x_54⟩ := hTy.k4 hT_g
    refine pl_callv (va_runV (As := [.int 32]) (rest := []) ⟨hx, hb, hml, hown, hT⟩ (s_pput l dC dI cy L kap pr S_49 H.size g 32 hTy hT_g) (cwV 1 hT (gV w1053 w1055 ws52 w13 w1056) rfl rfl rfl (by decide +kernel) ⟨(Nat.le_of_ble_eq_true rfl), (Nat.le_of_ble_eq_true rfl)⟩) ⟨pcN.blind, pl_recv hK hW hT_g.1 hS_g rfl, pcN.pre hW.1 hK hW.2.1 hN (fun q h => absurd h List.not_mem_nil)⟩ rfl rfl hl.1 rfl (lv_room (Nat.le_of_ble_eq_true rfl)) dX4_write_81 ⟨(Nat.le_of_ble_eq_true rfl), (Nat.le_of_ble_eq_true rfl)⟩) hW hA0 hA (fun S_55 H locs hrel hW => ?_)
    obtain ⟨hTy, hF1⟩ := hrel
    have hFr := hFr.tr hF1 (by decide)
    have hS_b := hF1.at hT_b (by decide) hS_b
    have hS_x_5 := hF1.at hT_x_5 (by decide) hS_x_5
    have hS_x_6 := hF1.at hT_x_6 (by decide) hS_x_6
    have hS_x_8 := hF1.at hT_x_8 (by decide) hS_x_8
    have hS_x_7 := hF1.at hT_x_7 (by decide) hS_x_7
    have hS_x_9 := hF1.at hT_x_9 (by decide) hS_x_9
    refine lv_aload_n hx hb dX4_write_84 rfl (lv_at hl 0 rfl) ?_
    refine lv_bipush (v := 42) hx hb dX4_write_85 (by decide) ?_
    obtain ⟨x_56, x_57, x_58, hS_g, hT_x_56, hb_x_57, hT_x_58⟩ := hTy.k4 hT_g
    refine pl_callv (va_runV (As := [.int 42]) (rest := []) ⟨hx, hb, hml, hown, hT⟩ (s_pput l dC dI cy L kap pr S_55 H.size g 42 hTy hT_g) (cwV 1 hT (gV w1053 w1055 ws52 w13 w1056) rfl rfl rfl (by decide +kernel) ⟨(Nat.le_of_ble_eq_true rfl), (Nat.le_of_ble_eq_true rfl)⟩) ⟨pcN.blind, pl_recv hK hW hT_g.1 hS_g rfl, pcN.pre hW.1 hK hW.2.1 hN (fun q h => absurd h List.not_mem_nil)⟩ rfl rfl hl.1 rfl (lv_room (Nat.le_of_ble_eq_true rfl)) dX4_write_87 ⟨(Nat.le_of_ble_eq_true rfl), (Nat.le_of_ble_eq_true rfl)⟩) hW hA0 hA (fun S_59 H locs hrel hW => ?_)
    obtain ⟨hTy, hF1⟩ := hrel
    have hFr := hFr.tr hF1 (by decide)
    have hS_b := hF1.at hT_b (by decide) hS_b
    have hS_x_5 := hF1.at hT_x_5 (by decide) hS_x_5
    have hS_x_6 := hF1.at hT_x_6 (by decide) hS_x_6
    have hS_x_8 := hF1.at hT_x_8 (by decide) hS_x_8
    have hS_x_7 := hF1.at hT_x_7 (by decide) hS_x_7
    have hS_x_9 := hF1.at hT_x_9 (by decide) hS_x_9
    exact W.vret hx hb hr (fun t ht h9 => ⟨⟨S_59, rfl, ⟨hTy, hFr⟩, by rw [ht]; exact hW.1, va_K.moved h9.alike hK, hW.2.1⟩, hW.2.2.F ht⟩) hW.2.2.2.2 dX4_write_90

set_option maxHeartbeats 4000000 in
set_option maxRecDepth 100000 in
theorem s_forget (l : Launch) (dC : Nat → ClassId) (dI : Nat → Nat → Nat) (cy : Nat → ClassId) (L : List Nat) (kap : Nat → Nat) (pr : Pr) (S : Nat → va_E) (sz : Nat) (pa : Nat) (hTy : Ty cy L kap pr S) (hT_pa : TK L kap pa 5) (hz : ∃ x, S pa = .inr (5, [.ref x, .int (nI 10)])) : Met l yX5_forgetOldest (wT yX5_forgetOldest cX5_forgetOldest 3 none) ({ frames := 0, cells := 0, slots := 0, locals := 0 }) (pcN dC dI [.ref pa] sz (va_pl L S) (cyT cy) NLs []) (va_Qv (fun S' => Ty cy L kap pr S' ∧ Fr kap [5, 28] S S' ∧ (∃ x, S' pa = .inr (5, [.ref x, .int (nI 9)]))) (fun S' t => pB dC dI (AL L sz) (va_pl L S') (cyT cy) t) (AL L sz)) 0 0 (AL L sz) := by
  refine Met.ofW (cc := cX5_forgetOldest) (maxL := 3) (ret := none) (by decide) rfl ?_
  intro p e s m args below meth c s₁ B hml hv
  obtain ⟨rfl, hsz, hP, hK, hD0, hN, -⟩ := hv
  have hx := B.exec
  have hb := B.bytes
  have hr := B.returns
  have hT : ∀ wd ∈ TB, wd.before [.ref pa].toArray s = true := fun wd h => atoms_spec (ws := wT yX5_forgetOldest cX5_forgetOldest 3 none) B.pre wd (List.mem_cons_of_mem _ h)
  have hown : s.vm.findClass RX5 = some m.cls := findClass_of_methodNamed B.named
  have hlocks := B.notSynchronized
  subst hsz
  have hW : PW dC dI L (AL L s.heap.size) s.heap S s.heap [] := ⟨hP, pl_self hD0, va_S.rf⟩
  have hA0 : ∀ q, q ∈ L → AL L s.heap.size q := fun _ h => Or.inl h
  have hA : ∀ q, s.heap.size ≤ q → AL L s.heap.size q := fun _ h => Or.inr h
  have hFr : Fr kap [5, 28] S S := Fr.rf
  have hl := lv_entry ([.ref pa]) (n := 3) (Nat.le_of_ble_eq_true rfl)
  rw [lg_entry_eq]
  generalize (lg_sl ([.ref pa]) ++ List.replicate (3 - (lg_sl ([.ref pa])).length) Slot.unset).toArray = ls at hl ⊢
  have hl : lv_has ls 3 [(0, .ref pa)] := hl
  obtain ⟨x_1, x_2, hS_pa, hT_x_1, hb_x_2⟩ := hTy.k5 hT_pa
  obtain ⟨xz, hz⟩ := hz
  have ez := pfix (by omega) hS_pa hz
  subst ez
  refine lv_aload_n hx hb dX5_forgetOldest_0 rfl (lv_at hl 0 rfl) ?_
  refine pl_get (ci := 5) (v := .ref x_1) (C := RX5) (T := TX5) (N := 2) hx hb hT iX5 hown hK hW hT_pa.1 hS_pa rfl 0 (by decide) w183 rfl dX5_forgetOldest_1 ?_
  refine lv_iconst (v := 0) hx hb dX5_forgetOldest_4 (by decide) ?_
  obtain ⟨f_3, hS_x_1, hi_f_3⟩ := hTy.k28 hT_x_1
  obtain ⟨b_4, hb_b_4, hT_b_4⟩ := hi_f_3 (0) (by omega)
  refine pl_aald hx hb hK hW hT_x_1.1 hS_x_1 (vp_in_nI (n := 0) (N := 10) (by omega) (by omega)) (b := b_4) (by show f_3 (nI (0)).toNatClampNeg = _; rw [nI_clamp (by omega)]; exact hb_b_4) dX5_forgetOldest_5 ?_
  refine lv_astore_n (lv' := [(1, .ref b_4), (0, .ref pa)]) hx hb dX5_forgetOldest_6 rfl hl (by decide) rfl (fun ls hl => ?_)
  refine lv_iconst (v := 0) hx hb dX5_forgetOldest_7 (by decide) ?_
  refine lv_istore_n (lv' := [(2, .int 0), (1, .ref b_4), (0, .ref pa)]) hx hb dX5_forgetOldest_8 rfl hl (by decide) rfl (fun ls hl => ?_)
  have loop : ∀ (fuel : Nat) (i : Nat) (SS : Nat → va_E) (H : Heap) (locs : List Loc) (ls : Array Slot), 10 - i < fuel → (i ≤ 9) → Ty cy L kap pr SS → Fr kap [5, 28] S SS → Fr kap [28] S SS → PW dC dI L (AL L s.heap.size) s.heap SS H locs → lv_has ls 3 [(2, .int (nI i)), (1, .ref b_4), (0, .ref pa)] → W p l e (headSpec (wT yX5_forgetOldest cX5_forgetOldest 3 none) { frames := 0, cells := 0, slots := 0, locals := 0 }).room s m [.ref pa].toArray below meth c H locs 0 0 (MQ below (va_Qv (fun S' => Ty cy L kap pr S' ∧ Fr kap [5, 28] S S' ∧ (∃ x, S' pa = .inr (5, [.ref x, .int (nI 9)]))) (fun S' t => pB dC dI (AL L s.heap.size) (va_pl L S') (cyT cy) t) (AL L s.heap.size)) [.ref pa].toArray s 0 0 (AL L s.heap.size)) (F0 m 9 ls []) := by
    intro fuel
    induction fuel with
    | zero => intro i SS H locs ls h; exact absurd h (Nat.not_lt_zero _)
    | succ fu9 ih9 =>
      intro i S_5 H locs ls hm9 hb_i hTy hFr hFl9 hW hl
      have hS_pa := hFl9.at hT_pa (by decide) hS_pa
      refine lv_iload_n hx hb dX5_forgetOldest_9 rfl (lv_at hl 0 rfl) ?_
      refine lv_iconst (v := 1) hx hb dX5_forgetOldest_10 (by decide) ?_
      refine lv_iadd hx hb dX5_forgetOldest_11 ?_
      refine lv_topi (fun z_6 ez_6 => ?_)
      obtain rfl : z_6 = nI (i + 1) := ez_6.trans (nI_add (i) (1))
      refine lv_bipush (v := 10) hx hb dX5_forgetOldest_12 (by decide) ?_
      refine lv_icmp_ge (tgt := 37) hx hb dX5_forgetOldest_14 (by decide) (fun c_14 => ?_) (fun c_14 => ?_)
      · have c_14 : 10 ≤ (i + 1) := (nI_leI (a := 10) (b := i + 1) (by omega) (by omega)).mp c_14
        refine lv_aload_n hx hb dX5_forgetOldest_37 rfl (lv_at hl 2 rfl) ?_
        refine pl_get (ci := 5) (v := .ref x_1) (C := RX5) (T := TX5) (N := 2) hx hb hT iX5 hown hK hW hT_pa.1 hS_pa rfl 0 (by decide) w183 rfl dX5_forgetOldest_38 ?_
        refine lv_bipush (v := 9) hx hb dX5_forgetOldest_41 (by decide) ?_
        refine lv_aload_n hx hb dX5_forgetOldest_43 rfl (lv_at hl 1 rfl) ?_
        obtain ⟨f_7, hS_x_1, hi_f_7⟩ := hTy.k28 hT_x_1
        obtain ⟨x_8, x_9, x_10, x_11, x_12, x_13, x_14, x_15, hS_b_4, hT_x_8, hT_x_9, hT_x_10, hT_x_11, hT_x_12, hT_x_13, hb_x_14⟩ := hTy.k46 hT_b_4
        refine pl_aast hx hb hK hW hT_x_1.1 hS_x_1 hT_b_4.1 hS_b_4 (vp_in_nI (n := 9) (N := 10) (by omega) (by omega)) dX5_forgetOldest_44 (fun H locs f_17 S_16 ef_f_17 e1 hW => ?_)
        have hi_f_17 := invr_up hi_f_7 ef_f_17 ⟨b_4, rfl, hT_b_4⟩
        have hTy := hTy.u28 e1 hT_x_1 ⟨f_17, rfl, hi_f_17⟩
        have hS_pa := un e1 hT_pa hT_x_1 (by decide) hS_pa
        have hS_b_4 := un e1 hT_b_4 hT_x_1 (by decide) hS_b_4
        have hFr := uf hFr e1 hT_x_1 (by decide) (by decide)
        have hFl9 := uf hFl9 e1 hT_x_1 (by decide) (by decide)
        have hS_x_1 := us e1
        refine lv_aload_n hx hb dX5_forgetOldest_45 rfl (lv_at hl 2 rfl) ?_
        refine lv_dup hx hb dX5_forgetOldest_46 rfl ?_
        refine pl_get (ci := 5) (v := .int (nI 10)) (C := RX5) (T := TX5) (N := 2) hx hb hT iX5 hown hK hW hT_pa.1 hS_pa rfl 1 (by decide) w184 rfl dX5_forgetOldest_47 ?_
        refine lv_iconst (v := 1) hx hb dX5_forgetOldest_50 (by decide) ?_
        refine lv_isub hx hb dX5_forgetOldest_51 ?_
        refine lv_topi (fun z_18 ez_18 => ?_)
        obtain rfl : z_18 = nI (10 - 1) := ez_18.trans (pk_sub (a := 10) (b := 1) (by omega))
        refine pl_put (ci := 5) (v := .int (nI (10 - 1))) (ty := .int) (C := RX5) (T := TX5) (N := 2) (fs' := [.ref x_1, .int (nI (10 - 1))]) hx hb hT iX5 tyX5 tyX5_ok nmX5 hown hK hW hT_pa.1 hS_pa rfl 1 (by decide) w184 rfl (by decide +kernel) rfl rfl (Nat.le_of_ble_eq_true rfl) rfl dX5_forgetOldest_52 (fun H locs S_19 e1 hW => ?_)
        have hTy := hTy.u5 e1 hT_pa ⟨x_1, 10 - 1, rfl, hT_x_1, (by omega)⟩
        have hS_x_1 := un e1 hT_x_1 hT_pa (by decide) hS_x_1
        have hS_b_4 := un e1 hT_b_4 hT_pa (by decide) hS_b_4
        have hFr := uf hFr e1 hT_pa (by decide) (by decide)
        have hS_pa := us e1
        exact W.vret hx hb hr (fun t ht h9 => ⟨⟨S_19, rfl, ⟨hTy, hFr, ⟨_, hS_pa⟩⟩, by rw [ht]; exact hW.1, va_K.moved h9.alike hK, hW.2.1⟩, hW.2.2.F ht⟩) hW.2.2.2.2 dX5_forgetOldest_55
      · have c_14 : ¬ (10 ≤ (i + 1)) := fun hh9 => c_14 ((nI_leI (a := 10) (b := i + 1) (by omega) (by omega)).mpr hh9)
        refine lv_aload_n hx hb dX5_forgetOldest_17 rfl (lv_at hl 2 rfl) ?_
        refine pl_get (ci := 5) (v := .ref x_1) (C := RX5) (T := TX5) (N := 2) hx hb hT iX5 hown hK hW hT_pa.1 hS_pa rfl 0 (by decide) w183 rfl dX5_forgetOldest_18 ?_
        refine lv_iload_n hx hb dX5_forgetOldest_21 rfl (lv_at hl 0 rfl) ?_
        refine lv_aload_n hx hb dX5_forgetOldest_22 rfl (lv_at hl 2 rfl) ?_
        refine pl_get (ci := 5) (v := .ref x_1) (C := RX5) (T := TX5) (N := 2) hx hb hT iX5 hown hK hW hT_pa.1 hS_pa rfl 0 (by decide) w183 rfl dX5_forgetOldest_23 ?_
        refine lv_iload_n hx hb dX5_forgetOldest_26 rfl (lv_at hl 0 rfl) ?_
        refine lv_iconst (v := 1) hx hb dX5_forgetOldest_27 (by decide) ?_
        refine lv_iadd hx hb dX5_forgetOldest_28 ?_
        refine lv_topi (fun z_20 ez_20 => ?_)
        obtain rfl : z_20 = nI (i + 1) := ez_20.trans (nI_add (i) (1))
        obtain ⟨f_21, hS_x_1, hi_f_21⟩ := hTy.k28 hT_x_1
        obtain ⟨b_22, hb_b_22, hT_b_22⟩ := hi_f_21 (i + 1) (by omega)
        refine pl_aald hx hb hK hW hT_x_1.1 hS_x_1 (vp_in_nI (n := i + 1) (N := 10) (by omega) (by omega)) (b := b_22) (by show f_21 (nI (i + 1)).toNatClampNeg = _; rw [nI_clamp (by omega)]; exact hb_b_22) dX5_forgetOldest_29 ?_
        obtain ⟨x_23, x_24, x_25, x_26, x_27, x_28, x_29, x_30, hS_b_22, hT_x_23, hT_x_24, hT_x_25, hT_x_26, hT_x_27, hT_x_28, hb_x_29⟩ := hTy.k46 hT_b_22
        refine pl_aast hx hb hK hW hT_x_1.1 hS_x_1 hT_b_22.1 hS_b_22 (vp_in_nI (n := i) (N := 10) (by omega) (by omega)) dX5_forgetOldest_30 (fun H locs f_32 S_31 ef_f_32 e1 hW => ?_)
        have hi_f_32 := invr_up hi_f_21 ef_f_32 ⟨b_22, rfl, hT_b_22⟩
        have hTy := hTy.u28 e1 hT_x_1 ⟨f_32, rfl, hi_f_32⟩
        have hS_pa := un e1 hT_pa hT_x_1 (by decide) hS_pa
        have hS_b_22 := un e1 hT_b_22 hT_x_1 (by decide) hS_b_22
        have hFr := uf hFr e1 hT_x_1 (by decide) (by decide)
        have hFl9 := uf hFl9 e1 hT_x_1 (by decide) (by decide)
        have hS_x_1 := us e1
        refine lv_iinc (v := nI (i + 1)) (lv' := [(2, .int (nI (i + 1))), (1, .ref b_4), (0, .ref pa)]) hx hb dX5_forgetOldest_31 hl (k := 0) rfl (nI_add (i) 1) (by decide) rfl (fun ls hl => ?_)
        refine lv_goto (tgt := 9) hx hb dX5_forgetOldest_34 (by decide) ?_
        exact ih9 (i + 1) _ _ _ ls (by omega) (by omega) hTy hFr hFl9 hW (lv_sub hl [0, 1, 2] rfl)
  exact loop ((10 - 0) + 1) 0 _ _ _ ls (Nat.lt_succ_self _) (by omega) hTy hFr Fr.rf hW (lv_sub hl [0, 1, 2] rfl)
