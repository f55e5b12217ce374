set_option maxHeartbeats 4000000 in
set_option maxRecDepth 100000 in
theorem s_gfindR (l : Launch) (dC : Nat → ClassId) (dI : Nat → Nat → Nat) (cy : Nat → ClassId) (L : List Nat) (kap : Nat → Nat) (pr : Pr) (S : Nat → va_E) (sz : Nat) (o : Nat) (w : Nat) (hTy : Ty cy L kap pr S) (hT_o : TK L kap o 7) (hT_w : TK L kap w 1) : Met l yX7_find (wT yX7_find cX7_find 4 none) ({ frames := 4, cells := 0, slots := 0, locals := 91 }) (pcN dC dI [.ref o, .ref w] sz (va_pl L S) (cyT cy) NLs []) (va_Qv (fun S' => Ty cy L kap pr S' ∧ Fr kap [7, 31, 32, 42] S S') (fun S' t => pB dC dI (AL L sz) (va_pl L S') (cyT cy) t) (AL L sz)) 0 0 (AL L sz) := by
  refine Met.ofW (cc := cX7_find) (maxL := 4) (ret := none) (by decide) rfl ?_
  intro p e s m args below meth c s₁ B hml hv
  obtain ⟨rfl, hsz, hP, hK, hD0, hN, -⟩ := hv
  have hx := B.exec
  have hb := B.bytes
  have hr := B.returns
  have hT : ∀ wd ∈ TB, wd.before [.ref o, .ref w].toArray s = true := fun wd h => atoms_spec (ws := wT yX7_find cX7_find 4 none) B.pre wd (List.mem_cons_of_mem _ h)
  have hown : s.vm.findClass RX7 = some m.cls := findClass_of_methodNamed B.named
  have hlocks := B.notSynchronized
  subst hsz
  have hW : PW dC dI L (AL L s.heap.size) s.heap S s.heap [] := ⟨hP, pl_self hD0, va_S.rf⟩
  have hA0 : ∀ q, q ∈ L → AL L s.heap.size q := fun _ h => Or.inl h
  have hA : ∀ q, s.heap.size ≤ q → AL L s.heap.size q := fun _ h => Or.inr h
  have hFr : Fr kap [7, 31, 32, 42] S S := Fr.rf
  have hl := lv_entry ([.ref o, .ref w]) (n := 4) (Nat.le_of_ble_eq_true rfl)
  rw [lg_entry_eq]
  generalize (lg_sl ([.ref o, .ref w]) ++ List.replicate (4 - (lg_sl ([.ref o, .ref w])).length) Slot.unset).toArray = ls at hl ⊢
  have hl : lv_has ls 4 [(0, .ref o), (1, .ref w)] := hl
  refine lv_aload_n hx hb dX7_find_0 rfl (lv_at hl 0 rfl) ?_
  refine lv_iconst (v := 0) hx hb dX7_find_1 (by decide) ?_
  obtain ⟨x_1, x_2, x_3, x_4, x_5, x_6, hS_o, hT_x_1, hb_x_2, hT_x_5, hT_x_6⟩ := hTy.k7 hT_o
  refine pl_put (ci := 7) (v := .int 0) (ty := .int) (C := RX7) (T := TX7) (N := 6) (fs' := [.ref x_1, .int 0, .long x_3, .int x_4, .ref x_5, .ref x_6]) hx hb hT iX7 tyX7 tyX7_ok nmX7 hown hK hW hT_o.1 hS_o rfl 1 (by decide) w218 rfl (by decide +kernel) rfl rfl (Nat.le_of_ble_eq_true rfl) rfl dX7_find_2 (fun H locs S_7 e1 hW => ?_)
  have hTy := hTy.u7 e1 hT_o ⟨x_1, 0, x_3, x_4, x_5, x_6, rfl, hT_x_1, (by omega), hT_x_5, hT_x_6⟩
  have hFr := uf hFr e1 hT_o (by decide) (by decide)
  have hS_o := us e1
  refine lv_iconst (v := 0) hx hb dX7_find_5 (by decide) ?_
  refine lv_istore_n (lv' := [(2, .int 0), (0, .ref o), (1, .ref w)]) hx hb dX7_find_6 rfl hl (by decide) rfl (fun ls hl => ?_)
  have loop : ∀ (fuel : Nat) (i : Nat) (SS : Nat → va_E) (H : Heap) (locs : List Loc) (ls : Array Slot), 9 - i < fuel → (i ≤ 8) → Ty cy L kap pr SS → Fr kap [7, 31, 32, 42] S SS → Fr kap [7, 31, 32, 42] S_7 SS → PW dC dI L (AL L s.heap.size) s.heap SS H locs → lv_has ls 4 [(2, .int (nI i)), (0, .ref o), (1, .ref w)] → W p l e (headSpec (wT yX7_find cX7_find 4 none) { frames := 4, cells := 0, slots := 0, locals := 91 }).room s m [.ref o, .ref w].toArray below meth c H locs 0 0 (MQ below (va_Qv (fun S' => Ty cy L kap pr S' ∧ Fr kap [7, 31, 32, 42] S S') (fun S' t => pB dC dI (AL L s.heap.size) (va_pl L S') (cyT cy) t) (AL L s.heap.size)) [.ref o, .ref w].toArray s 0 0 (AL L s.heap.size)) (F0 m 7 ls []) := by
    intro fuel
    induction fuel with
    | zero => intro i SS H locs ls h; exact absurd h (Nat.not_lt_zero _)
    | succ fu7 ih7 =>
      intro i S_8 H locs ls hm7 hb_i hTy hFr hFl7 hW hl
      refine lv_iload_n hx hb dX7_find_7 rfl (lv_at hl 0 rfl) ?_
      refine lv_aload_n hx hb dX7_find_8 rfl (lv_at hl 2 rfl) ?_
      obtain ⟨x_9, x_10, hS_w, hT_x_9, hb_x_10⟩ := hTy.k1 hT_w
      refine pl_get (ci := 1) (v := .int (nI x_10)) (C := RX1) (T := TX1) (N := 2) hx hb hT iX1 hown hK hW hT_w.1 hS_w rfl 1 (by decide) w201 rfl dX7_find_9 ?_
      refine lv_icmp_ge (tgt := 65) hx hb dX7_find_12 (by decide) (fun c_12 => ?_) (fun c_12 => ?_)
      · have c_12 : x_10 ≤ i := (nI_leI (a := x_10) (b := i) (by omega) (by omega)).mp c_12
        exact W.vret hx hb hr (fun t ht h9 => ⟨⟨S_8, rfl, ⟨hTy, hFr⟩, by rw [ht]; exact hW.1, va_K.moved h9.alike hK, hW.2.1⟩, hW.2.2.F ht⟩) hW.2.2.2.2 dX7_find_65
      · have c_12 : ¬ (x_10 ≤ i) := fun hh9 => c_12 ((nI_leI (a := x_10) (b := i) (by omega) (by omega)).mpr hh9)
        refine lv_aload_n hx hb dX7_find_15 rfl (lv_at hl 1 rfl) ?_
        refine lv_aload_n hx hb dX7_find_16 rfl (lv_at hl 2 rfl) ?_
        refine lv_iload_n hx hb dX7_find_17 rfl (lv_at hl 0 rfl) ?_
        obtain ⟨x_11, x_12, x_13, x_14, x_15, x_16, hS_o, hT_x_11, hb_x_12, hT_x_15, hT_x_16⟩ := hTy.k7 hT_o
        refine pl_callv (va_runV (As := [.ref w, .int (nI i)]) (rest := []) ⟨hx, hb, hml, hown, hT⟩ (s_msteps l dC dI cy L kap pr S_8 H.size o w i hTy hT_o hT_w (by omega)) (cwV 2 hT (gV w685 w687 ws31 w9 w688) rfl rfl rfl (by decide +kernel) ⟨(Nat.le_of_ble_eq_true rfl), (Nat.le_of_ble_eq_true rfl)⟩) ⟨pcN.blind, pl_recv hK hW hT_o.1 hS_o rfl, pcN.pre hW.1 hK hW.2.1 hN (fun q h => absurd h List.not_mem_nil)⟩ rfl rfl hl.1 rfl (lv_room (Nat.le_of_ble_eq_true rfl)) dX7_find_18 ⟨(Nat.le_of_ble_eq_true rfl), (Nat.le_of_ble_eq_true rfl)⟩) hW hA0 hA (fun S_17 H locs hrel hW => ?_)
        obtain ⟨hTy, hF1⟩ := hrel
        have hFr := hFr.tr hF1 (by decide)
        have hFl7 := hFl7.tr hF1 (by decide)
        have hS_w := hF1.at hT_w (by decide) hS_w
        have hS_o := hF1.at hT_o (by decide) hS_o
        refine lv_aload_n hx hb dX7_find_21 rfl (lv_at hl 1 rfl) ?_
        refine lv_aload_n hx hb dX7_find_22 rfl (lv_at hl 2 rfl) ?_
        refine lv_iload_n hx hb dX7_find_23 rfl (lv_at hl 0 rfl) ?_
        refine vp_callSi (va_Run.run (va_runV (As := [.ref w, .int (nI i)]) (rest := []) ⟨hx, hb, hml, hown, hT⟩ (s_lengthFrom l dC dI cy L kap pr S_17 H.size o w i hTy hT_o hT_w (by omega)) (cwV 2 hT (gV w694 w696 ws32 w9 w697) rfl rfl rfl (by decide +kernel) ⟨(Nat.le_of_ble_eq_true rfl), (Nat.le_of_ble_eq_true rfl)⟩) ⟨pcN.blind, pl_recv hK hW hT_o.1 hS_o rfl, pcN.pre hW.1 hK hW.2.1 hN (fun q h => absurd h List.not_mem_nil)⟩ rfl rfl hl.1 rfl (lv_room (Nat.le_of_ble_eq_true rfl)) dX7_find_24 ⟨(Nat.le_of_ble_eq_true rfl), (Nat.le_of_ble_eq_true rfl)⟩)) (fun r_18 hr_18 => ?_)
        have hle := hr_18
        refine lv_istore_n (lv' := [(3, .int r_18), (2, .int (nI i)), (0, .ref o), (1, .ref w)]) hx hb dX7_find_27 rfl hl (by decide) rfl (fun ls hl => ?_)
        refine lv_iload_n hx hb dX7_find_28 rfl (lv_at hl 0 rfl) ?_
        refine lv_iconst (v := (-1)) hx hb dX7_find_29 (by decide) ?_
        refine lv_icmp_eq (tgt := 59) hx hb dX7_find_30 (by decide) (fun c_30 => ?_) (fun c_30 => ?_)
        · refine lv_iinc (v := nI (i + 1)) (lv' := [(2, .int (nI (i + 1))), (3, .int r_18), (0, .ref o), (1, .ref w)]) hx hb dX7_find_59 hl (k := 1) rfl (nI_add (i) 1) (by decide) rfl (fun ls hl => ?_)
          refine lv_goto (tgt := 7) hx hb dX7_find_62 (by decide) ?_
          exact ih7 (i + 1) _ _ _ ls (by omega) (by omega) hTy hFr hFl7 hW (lv_sub hl [0, 2, 3] rfl)
        · obtain ⟨kl, hkl, rfl⟩ := hle.resolve_left c_30
          refine lv_aload_n hx hb dX7_find_33 rfl (lv_at hl 2 rfl) ?_
          refine pl_get (ci := 7) (v := .int (nI x_12)) (C := RX7) (T := TX7) (N := 6) hx hb hT iX7 hown hK hW hT_o.1 hS_o rfl 1 (by decide) w218 rfl dX7_find_34 ?_
          refine lv_if_eq (tgt := 48) hx hb dX7_find_37 (by decide) (fun c_37 => ?_) (fun c_37 => ?_)
          · have c_37 : x_12 = 0 := (nI_eq (a := x_12) (b := 0) (by omega) (by omega)).mp c_37
            refine lv_aload_n hx hb dX7_find_48 rfl (lv_at hl 2 rfl) ?_
            refine lv_iload_n hx hb dX7_find_49 rfl (lv_at hl 0 rfl) ?_
            refine pl_put (ci := 7) (v := .int (nI kl)) (ty := .int) (C := RX7) (T := TX7) (N := 6) (fs' := [.ref x_11, .int (nI kl), .long x_13, .int x_14, .ref x_15, .ref x_16]) hx hb hT iX7 tyX7 tyX7_ok nmX7 hown hK hW hT_o.1 hS_o rfl 1 (by decide) w218 rfl (by decide +kernel) rfl rfl (Nat.le_of_ble_eq_true rfl) rfl dX7_find_50 (fun H locs S_19 e1 hW => ?_)
            have hTy := hTy.u7 e1 hT_o ⟨x_11, kl, x_13, x_14, x_15, x_16, rfl, hT_x_11, (by omega), hT_x_15, hT_x_16⟩
            have hS_w := un e1 hT_w hT_o (by decide) hS_w
            have hFr := uf hFr e1 hT_o (by decide) (by decide)
            have hFl7 := uf hFl7 e1 hT_o (by decide) (by decide)
            have hS_o := us e1
            refine lv_aload_n hx hb dX7_find_53 rfl (lv_at hl 2 rfl) ?_
            refine lv_aload_n hx hb dX7_find_54 rfl (lv_at hl 3 rfl) ?_
            refine lv_iload_n hx hb dX7_find_55 rfl (lv_at hl 1 rfl) ?_
            refine pl_callv (va_runV (As := [.ref w, .int (nI i)]) (rest := []) ⟨hx, hb, hml, hown, hT⟩ (s_walk l dC dI cy L kap pr S_19 H.size o w i hTy hT_o hT_w (by omega)) (cwV 2 hT (gV w698 w700 ws33 w9 w701) rfl rfl rfl (by decide +kernel) ⟨(Nat.le_of_ble_eq_true rfl), (Nat.le_of_ble_eq_true rfl)⟩) ⟨pcN.blind, pl_recv hK hW hT_o.1 hS_o rfl, pcN.pre hW.1 hK hW.2.1 hN (fun q h => absurd h List.not_mem_nil)⟩ rfl rfl hl.1 rfl (lv_room (Nat.le_of_ble_eq_true rfl)) dX7_find_56 ⟨(Nat.le_of_ble_eq_true rfl), (Nat.le_of_ble_eq_true rfl)⟩) hW hA0 hA (fun S_20 H locs hrel hW => ?_)
            obtain ⟨hTy, hF1⟩ := hrel
            have hFr := hFr.tr hF1 (by decide)
            have hFl7 := hFl7.tr hF1 (by decide)
            have hS_w := hF1.at hT_w (by decide) hS_w
            have hS_o := hF1.at hT_o (by decide) hS_o
            refine lv_iinc (v := nI (i + 1)) (lv' := [(2, .int (nI (i + 1))), (3, .int (nI kl)), (0, .ref o), (1, .ref w)]) hx hb dX7_find_59 hl (k := 1) rfl (nI_add (i) 1) (by decide) rfl (fun ls hl => ?_)
            refine lv_goto (tgt := 7) hx hb dX7_find_62 (by decide) ?_
            exact ih7 (i + 1) _ _ _ ls (by omega) (by omega) hTy hFr hFl7 hW (lv_sub hl [0, 2, 3] rfl)
          · have c_37 : ¬ (x_12 = 0) := fun hh9 => c_37 ((nI_eq (a := x_12) (b := 0) (by omega) (by omega)).mpr hh9)
            refine lv_iload_n hx hb dX7_find_40 rfl (lv_at hl 0 rfl) ?_
            refine lv_aload_n hx hb dX7_find_41 rfl (lv_at hl 2 rfl) ?_
            refine pl_get (ci := 7) (v := .int (nI x_12)) (C := RX7) (T := TX7) (N := 6) hx hb hT iX7 hown hK hW hT_o.1 hS_o rfl 1 (by decide) w218 rfl dX7_find_42 ?_
            refine lv_icmp_ge (tgt := 59) hx hb dX7_find_45 (by decide) (fun c_45 => ?_) (fun c_45 => ?_)
            · have c_45 : x_12 ≤ kl := (nI_leI (a := x_12) (b := kl) (by omega) (by omega)).mp c_45
              refine lv_iinc (v := nI (i + 1)) (lv' := [(2, .int (nI (i + 1))), (3, .int (nI kl)), (0, .ref o), (1, .ref w)]) hx hb dX7_find_59 hl (k := 1) rfl (nI_add (i) 1) (by decide) rfl (fun ls hl => ?_)
              refine lv_goto (tgt := 7) hx hb dX7_find_62 (by decide) ?_
              exact ih7 (i + 1) _ _ _ ls (by omega) (by omega) hTy hFr hFl7 hW (lv_sub hl [0, 2, 3] rfl)
            · have c_45 : ¬ (x_12 ≤ kl) := fun hh9 => c_45 ((nI_leI (a := x_12) (b := kl) (by omega) (by omega)).mpr hh9)
              refine lv_aload_n hx hb dX7_find_48 rfl (lv_at hl 2 rfl) ?_
              refine lv_iload_n hx hb dX7_find_49 rfl (lv_at hl 0 rfl) ?_
              refine pl_put (ci := 7) (v := .int (nI kl)) (ty := .int) (C := RX7) (T := TX7) (N := 6) (fs' := [.ref x_11, .int (nI kl), .long x_13, .int x_14, .ref x_15, .ref x_16]) hx hb hT iX7 tyX7 tyX7_ok nmX7 hown hK hW hT_o.1 hS_o rfl 1 (by decide) w218 rfl (by decide +kernel) rfl rfl (Nat.le_of_ble_eq_true rfl) rfl dX7_find_50 (fun H locs S_21 e1 hW => ?_)
              have hTy := hTy.u7 e1 hT_o ⟨x_11, kl, x_13, x_14, x_15, x_16, rfl, hT_x_11, (by omega), hT_x_15, hT_x_16⟩
              have hS_w := un e1 hT_w hT_o (by decide) hS_w
              have hFr := uf hFr e1 hT_o (by decide) (by decide)
              have hFl7 := uf hFl7 e1 hT_o (by decide) (by decide)
              have hS_o := us e1
              refine lv_aload_n hx hb dX7_find_53 rfl (lv_at hl 2 rfl) ?_
              refine lv_aload_n hx hb dX7_find_54 rfl (lv_at hl 3 rfl) ?_
              refine lv_iload_n hx hb dX7_find_55 rfl (lv_at hl 1 rfl) ?_
              refine pl_callv (va_runV (As := [.ref w, .int (nI i)]) (rest := []) ⟨hx, hb, hml, hown, hT⟩ (s_walk l dC dI cy L kap pr S_21 H.size o w i hTy hT_o hT_w (by omega)) (cwV 2 hT (gV w698 w700 ws33 w9 w701) rfl rfl rfl (by decide +kernel) ⟨(Nat.le_of_ble_eq_true rfl), (Nat.le_of_ble_eq_true rfl)⟩) ⟨pcN.blind, pl_recv hK hW hT_o.1 hS_o rfl, pcN.pre hW.1 hK hW.2.1 hN (fun q h => absurd h List.not_mem_nil)⟩ rfl rfl hl.1 rfl (lv_room (Nat.le_of_ble_eq_true rfl)) dX7_find_56 ⟨(Nat.le_of_ble_eq_true rfl), (Nat.le_of_ble_eq_true rfl)⟩) hW hA0 hA (fun S_22 H locs hrel hW => ?_)
              obtain ⟨hTy, hF1⟩ := hrel
              have hFr := hFr.tr hF1 (by decide)
              have hFl7 := hFl7.tr hF1 (by decide)
              have hS_w := hF1.at hT_w (by decide) hS_w
              have hS_o := hF1.at hT_o (by decide) hS_o
              refine lv_iinc (v := nI (i + 1)) (lv' := [(2, .int (nI (i + 1))), (3, .int (nI kl)), (0, .ref o), (1, .ref w)]) hx hb dX7_find_59 hl (k := 1) rfl (nI_add (i) 1) (by decide) rfl (fun ls hl => ?_)
              refine lv_goto (tgt := 7) hx hb dX7_find_62 (by decide) ?_
              exact ih7 (i + 1) _ _ _ ls (by omega) (by omega) hTy hFr hFl7 hW (lv_sub hl [0, 2, 3] rfl)
  exact loop ((9 - 0) + 1) 0 _ _ _ ls (Nat.lt_succ_self _) (by omega) hTy hFr Fr.rf hW (lv_sub hl [0, 1, 2] rfl)

set_option maxHeartbeats 4000000 in
set_option maxRecDepth 100000 in
theorem s_takeOut (l : Launch) (dC : Nat → ClassId) (dI : Nat → Nat → Nat) (cy : Nat → ClassId) (L : List Nat) (kap : Nat → Nat) (pr : Pr) (S : Nat → va_E) (sz : Nat) (o : Nat) (w : Nat) (mo : Nat) (hTy : Ty cy L kap pr S) (hT_o : TK L kap o 7) (hT_w : TK L kap w 1) (hb_mo : mo ≤ 99) : Met l yX7_takeOut (wT yX7_takeOut cX7_takeOut 7 none) ({ frames := 5, cells := 0, slots := 0, locals := 114 }) (pcN dC dI [.ref o, .ref w, .int (nI mo)] sz (va_pl L S) (cyT cy) NLs []) (va_Qv (fun S' => Ty cy L kap pr S' ∧ Fr kap [7, 29, 31, 32, 42] S S') (fun S' t => pB dC dI (AL L sz) (va_pl L S') (cyT cy) t) (AL L sz)) 0 0 (AL L sz) := by
  refine Met.ofW (cc := cX7_takeOut) (maxL := 7) (ret := none) (by decide) rfl ?_
  intro p e s m args below meth c s₁ B hml hv
  obtain ⟨rfl, hsz, hP, hK, hD0, hN, -⟩ := hv
  have hx := B.exec
  have hb := B.bytes
  have hr := B.returns
  have hT : ∀ wd ∈ TB, wd.before [.ref o, .ref w, .int (nI mo)].toArray s = true := fun wd h => atoms_spec (ws := wT yX7_takeOut cX7_takeOut 7 none) B.pre wd (List.mem_cons_of_mem _ h)
  have hown : s.vm.findClass RX7 = some m.cls := findClass_of_methodNamed B.named
  have hlocks := B.notSynchronized
  subst hsz
  have hW : PW dC dI L (AL L s.heap.size) s.heap S s.heap [] := ⟨hP, pl_self hD0, va_S.rf⟩
  have hA0 : ∀ q, q ∈ L → AL L s.heap.size q := fun _ h => Or.inl h
  have hA : ∀ q, s.heap.size ≤ q → AL L s.heap.size q := fun _ h => Or.inr h
  have hFr : Fr kap [7, 29, 31, 32, 42] S S := Fr.rf
  have hl := lv_entry ([.ref o, .ref w, .int (nI mo)]) (n := 7) (Nat.le_of_ble_eq_true rfl)
  rw [lg_entry_eq]
  generalize (lg_sl ([.ref o, .ref w, .int (nI mo)]) ++ List.replicate (7 - (lg_sl ([.ref o, .ref w, .int (nI mo)])).length) Slot.unset).toArray = ls at hl ⊢
  have hl : lv_has ls 7 [(0, .ref o), (1, .ref w), (2, .int (nI mo))] := hl
  refine lv_aload_n hx hb dX7_takeOut_0 rfl (lv_at hl 0 rfl) ?_
  refine lv_lconst (v := 0) hx hb dX7_takeOut_1 (by decide) ?_
  obtain ⟨x_1, x_2, x_3, x_4, x_5, x_6, hS_o, hT_x_1, hb_x_2, hT_x_5, hT_x_6⟩ := hTy.k7 hT_o
  refine pl_put (ci := 7) (v := .long 0) (ty := .long) (C := RX7) (T := TX7) (N := 6) (fs' := [.ref x_1, .int (nI x_2), .long 0, .int x_4, .ref x_5, .ref x_6]) hx hb hT iX7 tyX7 tyX7_ok nmX7 hown hK hW hT_o.1 hS_o rfl 2 (by decide) w220 rfl (by decide +kernel) rfl rfl (Nat.le_of_ble_eq_true rfl) rfl dX7_takeOut_2 (fun H locs S_7 e1 hW => ?_)
  have hTy := hTy.u7 e1 hT_o ⟨x_1, x_2, 0, x_4, x_5, x_6, rfl, hT_x_1, (by omega), hT_x_5, hT_x_6⟩
  have hFr := uf hFr e1 hT_o (by decide) (by decide)
  have hS_o := us e1
  refine lv_aload_n hx hb dX7_takeOut_5 rfl (lv_at hl 0 rfl) ?_
  refine lv_iconst (v := 0) hx hb dX7_takeOut_6 (by decide) ?_
  refine pl_put (ci := 7) (v := .int 0) (ty := .int) (C := RX7) (T := TX7) (N := 6) (fs' := [.ref x_1, .int (nI x_2), .long 0, .int 0, .ref x_5, .ref x_6]) hx hb hT iX7 tyX7 tyX7_ok nmX7 hown hK hW hT_o.1 hS_o rfl 3 (by decide) w222 rfl (by decide +kernel) rfl rfl (Nat.le_of_ble_eq_true rfl) rfl dX7_takeOut_7 (fun H locs S_8 e1 hW => ?_)
  have hTy := hTy.u7 e1 hT_o ⟨x_1, x_2, 0, 0, x_5, x_6, rfl, hT_x_1, (by omega), hT_x_5, hT_x_6⟩
  have hFr := uf hFr e1 hT_o (by decide) (by decide)
  have hS_o := us e1
  refine lv_iconst (v := 0) hx hb dX7_takeOut_10 (by decide) ?_
  refine lv_istore_n (lv' := [(3, .int 0), (0, .ref o), (1, .ref w), (2, .int (nI mo))]) hx hb dX7_takeOut_11 rfl hl (by decide) rfl (fun ls hl => ?_)
  have loop : ∀ (fuel : Nat) (i : Nat) (SS : Nat → va_E) (H : Heap) (locs : List Loc) (ls : Array Slot), 100 - i < fuel → (i ≤ 99) → Ty cy L kap pr SS → Fr kap [7, 29, 31, 32, 42] S SS → Fr kap [7, 29, 31, 32, 42] S_8 SS → PW dC dI L (AL L s.heap.size) s.heap SS H locs → lv_has ls 7 [(3, .int (nI i)), (0, .ref o), (1, .ref w), (2, .int (nI mo))] → W p l e (headSpec (wT yX7_takeOut cX7_takeOut 7 none) { frames := 5, cells := 0, slots := 0, locals := 114 }).room s m [.ref o, .ref w, .int (nI mo)].toArray below meth c H locs 0 0 (MQ below (va_Qv (fun S' => Ty cy L kap pr S' ∧ Fr kap [7, 29, 31, 32, 42] S S') (fun S' t => pB dC dI (AL L s.heap.size) (va_pl L S') (cyT cy) t) (AL L s.heap.size)) [.ref o, .ref w, .int (nI mo)].toArray s 0 0 (AL L s.heap.size)) (F0 m 12 ls []) := by
    intro fuel
    induction fuel with
    | zero => intro i SS H locs ls h; exact absurd h (Nat.not_lt_zero _)
    | succ fu12 ih12 =>
      intro i S_9 H locs ls hm12 hb_i hTy hFr hFl12 hW hl
      refine lv_iload_n hx hb dX7_takeOut_12 rfl (lv_at hl 0 rfl) ?_
      refine lv_iload_n hx hb dX7_takeOut_13 rfl (lv_at hl 3 rfl) ?_
      refine lv_icmp_ge (tgt := 119) hx hb dX7_takeOut_14 (by decide) (fun c_14 => ?_) (fun c_14 => ?_)
      · have c_14 : mo ≤ i := (nI_leI (a := mo) (b := i) (by omega) (by omega)).mp c_14
        exact W.vret hx hb hr (fun t ht h9 => ⟨⟨S_9, rfl, ⟨hTy, hFr⟩, by rw [ht]; exact hW.1, va_K.moved h9.alike hK, hW.2.1⟩, hW.2.2.F ht⟩) hW.2.2.2.2 dX7_takeOut_119
      · have c_14 : ¬ (mo ≤ i) := fun hh9 => c_14 ((nI_leI (a := mo) (b := i) (by omega) (by omega)).mpr hh9)
        refine lv_aload_n hx hb dX7_takeOut_17 rfl (lv_at hl 1 rfl) ?_
        refine lv_aload_n hx hb dX7_takeOut_18 rfl (lv_at hl 2 rfl) ?_
        obtain ⟨x_10, x_11, x_12, x_13, x_14, x_15, hS_o, hT_x_10, hb_x_11, hT_x_14, hT_x_15⟩ := hTy.k7 hT_o
        refine pl_callv (va_runV (As := [.ref w]) (rest := []) ⟨hx, hb, hml, hown, hT⟩ (s_gfindR l dC dI cy L kap pr S_9 H.size o w hTy hT_o hT_w) (cwV 1 hT (gV w932 w682 w683 w9 w684) rfl rfl rfl (by decide +kernel) ⟨(Nat.le_of_ble_eq_true rfl), (Nat.le_of_ble_eq_true rfl)⟩) ⟨pcN.blind, pl_recv hK hW hT_o.1 hS_o rfl, pcN.pre hW.1 hK hW.2.1 hN (fun q h => absurd h List.not_mem_nil)⟩ rfl rfl hl.1 rfl (lv_room (Nat.le_of_ble_eq_true rfl)) dX7_takeOut_19 ⟨(Nat.le_of_ble_eq_true rfl), (Nat.le_of_ble_eq_true rfl)⟩) hW hA0 hA (fun S_16 H locs hrel hW => ?_)
        obtain ⟨hTy, hF1⟩ := hrel
        have hFr := hFr.tr hF1 (by decide)
        have hFl12 := hFl12.tr hF1 (by decide)
        refine lv_aload_n hx hb dX7_takeOut_22 rfl (lv_at hl 1 rfl) ?_
        obtain ⟨x_17, x_18, x_19, x_20, x_21, x_22, hS_o, hT_x_17, hb_x_18, hT_x_21, hT_x_22⟩ := hTy.k7 hT_o
        refine pl_get (ci := 7) (v := .int (nI x_18)) (C := RX7) (T := TX7) (N := 6) hx hb hT iX7 hown hK hW hT_o.1 hS_o rfl 1 (by decide) w218 rfl dX7_takeOut_23 ?_
        refine lv_if_ne (tgt := 30) hx hb dX7_takeOut_26 (by decide) (fun c_26 => ?_) (fun c_26 => ?_)
        · have c_26 : ¬ (x_18 = 0) := fun hh9 => c_26 ((nI_eq (a := x_18) (b := 0) (by omega) (by omega)).mpr hh9)
          refine lv_aload_n hx hb dX7_takeOut_30 rfl (lv_at hl 1 rfl) ?_
          refine lv_aload_n hx hb dX7_takeOut_31 rfl (lv_at hl 2 rfl) ?_
          refine vp_callSl (va_Run.run (va_runV (As := [.ref w]) (rest := []) ⟨hx, hb, hml, hown, hT⟩ (s_leastFlow l dC dI cy L kap pr S_16 H.size o w hTy hT_o hT_w) (cwV 1 hT (gV w933 w707 w708 w9 w709) rfl rfl rfl (by decide +kernel) ⟨(Nat.le_of_ble_eq_true rfl), (Nat.le_of_ble_eq_true rfl)⟩) ⟨pcN.blind, pl_recv hK hW hT_o.1 hS_o rfl, pcN.pre hW.1 hK hW.2.1 hN (fun q h => absurd h List.not_mem_nil)⟩ rfl rfl hl.1 rfl (lv_room (Nat.le_of_ble_eq_true rfl)) dX7_takeOut_32 ⟨(Nat.le_of_ble_eq_true rfl), (Nat.le_of_ble_eq_true rfl)⟩)) (fun r_23 hr_23 => ?_)
          refine lv_lstore (lv' := [(4, .long r_23), (3, .int (nI i)), (0, .ref o), (1, .ref w), (2, .int (nI mo))]) hx hb dX7_takeOut_35 hl (by decide) rfl (fun ls hl => ?_)
          refine lv_iconst (v := 0) hx hb dX7_takeOut_37 (by decide) ?_
          refine lv_istore (lv' := [(6, .int 0), (4, .long r_23), (3, .int (nI i)), (0, .ref o), (1, .ref w), (2, .int (nI mo))]) hx hb dX7_takeOut_38 hl (by decide) rfl (fun ls hl => ?_)
          have loop : ∀ (fuel : Nat) (j : Nat) (SS : Nat → va_E) (H : Heap) (locs : List Loc) (ls : Array Slot), 9 - j < fuel → (j ≤ 8) → Ty cy L kap pr SS → Fr kap [7, 29, 31, 32, 42] S SS → Fr kap [29] S_16 SS → PW dC dI L (AL L s.heap.size) s.heap SS H locs → lv_has ls 7 [(6, .int (nI j)), (4, .long r_23), (3, .int (nI i)), (0, .ref o), (1, .ref w), (2, .int (nI mo))] → W p l e (headSpec (wT yX7_takeOut cX7_takeOut 7 none) { frames := 5, cells := 0, slots := 0, locals := 114 }).room s m [.ref o, .ref w, .int (nI mo)].toArray below meth c H locs 0 0 (MQ below (va_Qv (fun S' => Ty cy L kap pr S' ∧ Fr kap [7, 29, 31, 32, 42] S S') (fun S' t => pB dC dI (AL L s.heap.size) (va_pl L S') (cyT cy) t) (AL L s.heap.size)) [.ref o, .ref w, .int (nI mo)].toArray s 0 0 (AL L s.heap.size)) (F0 m 40 ls []) := by
            intro fuel
            induction fuel with
            | zero => intro j SS H locs ls h; exact absurd h (Nat.not_lt_zero _)
            | succ fu40 ih40 =>
              intro j S_24 H locs ls hm40 hb_j hTy hFr hFl40 hW hl
              have hS_o := hFl40.at hT_o (by decide) hS_o
              have hFl12 := hFl12.tr hFl40 (by decide)
              refine lv_iload hx hb dX7_takeOut_40 (lv_at hl 0 rfl) ?_
              refine lv_aload_n hx hb dX7_takeOut_42 rfl (lv_at hl 3 rfl) ?_
              refine pl_get (ci := 7) (v := .int (nI x_18)) (C := RX7) (T := TX7) (N := 6) hx hb hT iX7 hown hK hW hT_o.1 hS_o rfl 1 (by decide) w218 rfl dX7_takeOut_43 ?_
              refine lv_icmp_ge (tgt := 86) hx hb dX7_takeOut_46 (by decide) (fun c_46 => ?_) (fun c_46 => ?_)
              · have c_46 : x_18 ≤ j := (nI_leI (a := x_18) (b := j) (by omega) (by omega)).mp c_46
                refine lv_aload_n hx hb dX7_takeOut_86 rfl (lv_at hl 3 rfl) ?_
                refine lv_dup hx hb dX7_takeOut_87 rfl ?_
                refine pl_get (ci := 7) (v := .long x_19) (C := RX7) (T := TX7) (N := 6) hx hb hT iX7 hown hK hW hT_o.1 hS_o rfl 2 (by decide) w220 rfl dX7_takeOut_88 ?_
                refine lv_lload hx hb dX7_takeOut_91 (lv_at hl 1 rfl) ?_
                refine lv_aload_n hx hb dX7_takeOut_93 rfl (lv_at hl 3 rfl) ?_
                refine pl_get (ci := 7) (v := .int (nI x_18)) (C := RX7) (T := TX7) (N := 6) hx hb hT iX7 hown hK hW hT_o.1 hS_o rfl 1 (by decide) w218 rfl dX7_takeOut_94 ?_
                refine lv_i2l hx hb dX7_takeOut_97 rfl ?_
                refine lv_topl (fun z_25 ez_25 => ?_)
                refine lv_lmul hx hb dX7_takeOut_98 ?_
                refine lv_topl (fun z_26 ez_26 => ?_)
                refine lv_ladd hx hb dX7_takeOut_99 ?_
                refine lv_topl (fun z_27 ez_27 => ?_)
                refine pl_put (ci := 7) (v := .long z_27) (ty := .long) (C := RX7) (T := TX7) (N := 6) (fs' := [.ref x_17, .int (nI x_18), .long z_27, .int x_20, .ref x_21, .ref x_22]) hx hb hT iX7 tyX7 tyX7_ok nmX7 hown hK hW hT_o.1 hS_o rfl 2 (by decide) w220 rfl (by decide +kernel) rfl rfl (Nat.le_of_ble_eq_true rfl) rfl dX7_takeOut_100 (fun H locs S_28 e1 hW => ?_)
                have hTy := hTy.u7 e1 hT_o ⟨x_17, x_18, z_27, x_20, x_21, x_22, rfl, hT_x_17, (by omega), hT_x_21, hT_x_22⟩
                have hFr := uf hFr e1 hT_o (by decide) (by decide)
                have hFl12 := uf hFl12 e1 hT_o (by decide) (by decide)
                have hS_o := us e1
                refine lv_aload_n hx hb dX7_takeOut_103 rfl (lv_at hl 3 rfl) ?_
                refine lv_dup hx hb dX7_takeOut_104 rfl ?_
                refine pl_get (ci := 7) (v := .int x_20) (C := RX7) (T := TX7) (N := 6) hx hb hT iX7 hown hK hW hT_o.1 hS_o rfl 3 (by decide) w222 rfl dX7_takeOut_105 ?_
                refine lv_iconst (v := 1) hx hb dX7_takeOut_108 (by decide) ?_
                refine lv_iadd hx hb dX7_takeOut_109 ?_
                refine lv_topi (fun z_29 ez_29 => ?_)
                refine pl_put (ci := 7) (v := .int z_29) (ty := .int) (C := RX7) (T := TX7) (N := 6) (fs' := [.ref x_17, .int (nI x_18), .long z_27, .int z_29, .ref x_21, .ref x_22]) hx hb hT iX7 tyX7 tyX7_ok nmX7 hown hK hW hT_o.1 hS_o rfl 3 (by decide) w222 rfl (by decide +kernel) rfl rfl (Nat.le_of_ble_eq_true rfl) rfl dX7_takeOut_110 (fun H locs S_30 e1 hW => ?_)
                have hTy := hTy.u7 e1 hT_o ⟨x_17, x_18, z_27, z_29, x_21, x_22, rfl, hT_x_17, (by omega), hT_x_21, hT_x_22⟩
                have hFr := uf hFr e1 hT_o (by decide) (by decide)
                have hFl12 := uf hFl12 e1 hT_o (by decide) (by decide)
                have hS_o := us e1
                refine lv_iinc (v := nI (i + 1)) (lv' := [(3, .int (nI (i + 1))), (6, .int (nI j)), (4, .long r_23), (0, .ref o), (1, .ref w), (2, .int (nI mo))]) hx hb dX7_takeOut_113 hl (k := 2) rfl (nI_add (i) 1) (by decide) rfl (fun ls hl => ?_)
                refine lv_goto (tgt := 12) hx hb dX7_takeOut_116 (by decide) ?_
                exact ih12 (i + 1) _ _ _ ls (by omega) (by omega) hTy hFr hFl12 hW (lv_sub hl [0, 3, 4, 5] rfl)
              · have c_46 : ¬ (x_18 ≤ j) := fun hh9 => c_46 ((nI_leI (a := x_18) (b := j) (by omega) (by omega)).mpr hh9)
                refine lv_aload_n hx hb dX7_takeOut_49 rfl (lv_at hl 4 rfl) ?_
                obtain ⟨x_31, x_32, hS_w, hT_x_31, hb_x_32⟩ := hTy.k1 hT_w
                refine pl_get (ci := 1) (v := .ref x_31) (C := RX1) (T := TX1) (N := 2) hx hb hT iX1 hown hK hW hT_w.1 hS_w rfl 0 (by decide) w198 rfl dX7_takeOut_50 ?_
                refine lv_aload_n hx hb dX7_takeOut_53 rfl (lv_at hl 3 rfl) ?_
                refine pl_get (ci := 7) (v := .ref x_17) (C := RX7) (T := TX7) (N := 6) hx hb hT iX7 hown hK hW hT_o.1 hS_o rfl 0 (by decide) w216 rfl dX7_takeOut_54 ?_
                refine lv_iload hx hb dX7_takeOut_57 (lv_at hl 0 rfl) ?_
                obtain ⟨f_33, hS_x_17, hi_f_33⟩ := hTy.k42 hT_x_17
                refine pl_iald hx hb hK hW hT_x_17.1 hS_x_17 (vp_in_nI (n := j) (N := 8) (by omega) (by omega)) dX7_takeOut_59 ?_
                refine lv_topi (fun y_34 ey_34 => ?_)
                obtain ⟨k_35, hb_k_35, hq_k_35⟩ := hi_f_33 (j) (by omega)
                obtain rfl : y_34 = nI k_35 := ey_34.trans (by show f_33 (nI (j)).toNatClampNeg = _; rw [nI_clamp (by omega)]; exact hq_k_35)
                refine lv_aload_n hx hb dX7_takeOut_60 rfl (lv_at hl 3 rfl) ?_
                refine pl_get (ci := 7) (v := .ref x_17) (C := RX7) (T := TX7) (N := 6) hx hb hT iX7 hown hK hW hT_o.1 hS_o rfl 0 (by decide) w216 rfl dX7_takeOut_61 ?_
                refine lv_aload_n hx hb dX7_takeOut_64 rfl (lv_at hl 3 rfl) ?_
                refine lv_iload hx hb dX7_takeOut_65 (lv_at hl 0 rfl) ?_
                refine vp_callSi (va_Run.run (va_runV (As := [.int (nI j)]) (rest := [.ref x_17, .int (nI k_35), .ref x_31]) ⟨hx, hb, hml, hown, hT⟩ (s_after l dC dI cy L kap pr S_24 H.size o j hTy hT_o (by omega)) (cwV 1 hT (gV w710 w711 w712 w9 w713) rfl rfl rfl (by decide +kernel) ⟨(Nat.le_of_ble_eq_true rfl), (Nat.le_of_ble_eq_true rfl)⟩) ⟨pcN.blind, pl_recv hK hW hT_o.1 hS_o rfl, pcN.pre hW.1 hK hW.2.1 hN (fun q h => absurd h List.not_mem_nil)⟩ rfl rfl hl.1 rfl (lv_room (Nat.le_of_ble_eq_true rfl)) dX7_takeOut_67 ⟨(Nat.le_of_ble_eq_true rfl), (Nat.le_of_ble_eq_true rfl)⟩)) (fun r_36 hr_36 => ?_)
                obtain ⟨k_37, hb_k_37, rfl⟩ := hr_36
                refine pl_iald hx hb hK hW hT_x_17.1 hS_x_17 (vp_in_nI (n := k_37) (N := 8) (by omega) (by omega)) dX7_takeOut_70 ?_
                refine lv_topi (fun y_38 ey_38 => ?_)
                obtain ⟨k_39, hb_k_39, hq_k_39⟩ := hi_f_33 (k_37) (by omega)
                obtain rfl : y_38 = nI k_39 := ey_38.trans (by show f_33 (nI (k_37)).toNatClampNeg = _; rw [nI_clamp (by omega)]; exact hq_k_39)
                refine vp_callSi (va_Run.run (va_runSN (As := [.int (nI k_35), .int (nI k_39)]) (rest := [.ref x_31]) ⟨hx, hb, hml, hown, hT⟩ (s_cell l dC dI H.size k_35 k_39 (by omega) (by omega)) ⟨va_cnB 2 hT (gT w577) rfl rfl rfl (hN (RX7, 49, yX11_cell, RX11) (by decide +kernel)) (hT _ w1) (by decide +kernel) ⟨(Nat.le_of_ble_eq_true rfl), (Nat.le_of_ble_eq_true rfl)⟩, (hT _ w576), trivial⟩ ⟨pcW.blind, pcW.pre (va_P0 _ _ _) (hK.sub (tys' := []) [] rfl) (va_D0 (fun _ => True))⟩ rfl rfl hl.1 rfl (lv_room (Nat.le_of_ble_eq_true rfl)) dX7_takeOut_71 ⟨(Nat.le_of_ble_eq_true rfl), (Nat.le_of_ble_eq_true rfl)⟩)) (fun r_40 hr_40 => ?_)
                obtain rfl : r_40 = nI (k_35 * 8 + k_39) := hr_40
                refine lv_dup2_11 hx hb dX7_takeOut_74 rfl rfl ?_
                obtain ⟨f_41, hS_x_31⟩ := hTy.k29 hT_x_31
                refine pl_lald hx hb hK hW hT_x_31.1 hS_x_31 (vp_in_nI (n := k_35 * 8 + k_39) (N := 64) (by omega) (by omega)) dX7_takeOut_75 ?_
                refine lv_topl (fun y_42 ey_42 => ?_)
                refine lv_lload hx hb dX7_takeOut_76 (lv_at hl 1 rfl) ?_
                refine lv_lsub hx hb dX7_takeOut_78 ?_
                refine lv_topl (fun z_43 ez_43 => ?_)
                refine pl_last hx hb hK hW hT_x_31.1 hS_x_31 (vp_in_nI (n := k_35 * 8 + k_39) (N := 64) (by omega) (by omega)) dX7_takeOut_79 (fun H locs f_45 S_44 ef_f_45 e1 hW => ?_)
                have hTy := hTy.u29 e1 hT_x_31 ⟨f_45, rfl⟩
                have hS_o := un e1 hT_o hT_x_31 (by decide) hS_o
                have hS_w := un e1 hT_w hT_x_31 (by decide) hS_w
                have hS_x_17 := un e1 hT_x_17 hT_x_31 (by decide) hS_x_17
                have hFr := uf hFr e1 hT_x_31 (by decide) (by decide)
                have hFl12 := uf hFl12 e1 hT_x_31 (by decide) (by decide)
                have hFl40 := uf hFl40 e1 hT_x_31 (by decide) (by decide)
                have hS_x_31 := us e1
                refine lv_iinc (v := nI (j + 1)) (lv' := [(6, .int (nI (j + 1))), (4, .long r_23), (3, .int (nI i)), (0, .ref o), (1, .ref w), (2, .int (nI mo))]) hx hb dX7_takeOut_80 hl (k := 0) rfl (nI_add (j) 1) (by decide) rfl (fun ls hl => ?_)
                refine lv_goto (tgt := 40) hx hb dX7_takeOut_83 (by decide) ?_
                exact ih40 (j + 1) _ _ _ ls (by omega) (by omega) hTy hFr hFl40 hW (lv_sub hl [0, 1, 2, 3, 4, 5] rfl)
          exact loop ((9 - 0) + 1) 0 _ _ _ ls (Nat.lt_succ_self _) (by omega) hTy hFr Fr.rf hW (lv_sub hl [0, 1, 2, 3, 4, 5] rfl)
        · have c_26 : x_18 = 0 := (nI_eq (a := x_18) (b := 0) (by omega) (by omega)).mp c_26
          exact W.vret hx hb hr (fun t ht h9 => ⟨⟨S_16, rfl, ⟨hTy, hFr⟩, by rw [ht]; exact hW.1, va_K.moved h9.alike hK, hW.2.1⟩, hW.2.2.F ht⟩) hW.2.2.2.2 dX7_takeOut_29
  exact loop ((100 - 0) + 1) 0 _ _ _ ls (Nat.lt_succ_self _) (by omega) hTy hFr Fr.rf hW (lv_sub hl [0, 1, 2, 3] rfl)
