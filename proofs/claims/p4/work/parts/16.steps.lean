set_option maxHeartbeats 4000000 in
set_option maxRecDepth 100000 in
theorem s_fillI32 (l : Launch) (dC : Nat → ClassId) (dI : Nat → Nat → Nat) (cy : Nat → ClassId) (L : List Nat) (kap : Nat → Nat) (pr : Pr) (S : Nat → va_E) (sz : Nat) (q : Nat) (v : Int32) (hTy : Ty cy L kap pr S) (hT_q : TK L kap q 32) (hv : v = -1) : Met l yJ7_fill_53178 (wT yJ7_fill_53178 cJ7_fill_53178 4 none) ({ frames := 0, cells := 0, slots := 0, locals := 0 }) (pcN dC dI [.ref q, .int v] sz (va_pl L S) (cyT cy) NLs []) (va_Qv (fun S' => Ty cy L kap pr S' ∧ Fr kap [32] S S') (fun S' t => pB dC dI (AL L sz) (va_pl L S') (cyT cy) t) (AL L sz)) 0 0 (AL L sz) := by
  refine Met.ofW (cc := cJ7_fill_53178) (maxL := 4) (ret := none) (by decide) rfl ?_
  intro p e s m args below meth c s₁ B hml hv
  obtain ⟨rfl, hsz, hP, hK, hD0, hN, -⟩ := hv
  have hx := B.exec
  have hb := B.bytes
  have hr := B.returns
  have hT : ∀ wd ∈ TB, wd.before [.ref q, .int v].toArray s = true := fun wd h => atoms_spec (ws := wT yJ7_fill_53178 cJ7_fill_53178 4 none) B.pre wd (List.mem_cons_of_mem _ h)
  have hown : s.vm.findClass RJ7 = some m.cls := findClass_of_methodNamed B.named
  have hlocks := B.notSynchronized
  subst hsz
  have hW : PW dC dI L (AL L s.heap.size) s.heap S s.heap [] := ⟨hP, pl_self hD0, va_S.rf⟩
  have hA0 : ∀ q, q ∈ L → AL L s.heap.size q := fun _ h => Or.inl h
  have hA : ∀ q, s.heap.size ≤ q → AL L s.heap.size q := fun _ h => Or.inr h
  have hFr : Fr kap [32] S S := Fr.rf
  have hl := lv_entry ([.ref q, .int v]) (n := 4) (Nat.le_of_ble_eq_true rfl)
  rw [lg_entry_eq]
  generalize (lg_sl ([.ref q, .int v]) ++ List.replicate (4 - (lg_sl ([.ref q, .int v])).length) Slot.unset).toArray = ls at hl ⊢
  have hl : lv_has ls 4 [(0, .ref q), (1, .int v)] := hl
  refine lv_iconst (v := 0) hx hb dJ7_fill_53178_0 (by decide) ?_
  refine lv_istore_n (lv' := [(2, .int 0), (0, .ref q), (1, .int v)]) hx hb dJ7_fill_53178_1 rfl hl (by decide) rfl (fun ls hl => ?_)
  refine lv_aload_n hx hb dJ7_fill_53178_2 rfl (lv_at hl 1 rfl) ?_
  obtain ⟨f_1, hS_q, hi_f_1⟩ := hTy.k32 hT_q
  refine pl_alen (v := 8) hx hb hK hW hT_q.1 hS_q 0 rfl rfl dJ7_fill_53178_3 ?_
  refine lv_istore_n (lv' := [(3, .int 8), (2, .int 0), (0, .ref q), (1, .int v)]) hx hb dJ7_fill_53178_4 rfl hl (by decide) rfl (fun ls hl => ?_)
  have loop : ∀ (fuel : Nat) (i : Nat) (SS : Nat → va_E) (H : Heap) (locs : List Loc) (ls : Array Slot), 8 - i < fuel → (i ≤ 8) → Ty cy L kap pr SS → Fr kap [32] S SS → Fr kap [32] S SS → PW dC dI L (AL L s.heap.size) s.heap SS H locs → lv_has ls 4 [(3, .int 8), (2, .int (nI i)), (0, .ref q), (1, .int v)] → W p l e (headSpec (wT yJ7_fill_53178 cJ7_fill_53178 4 none) { frames := 0, cells := 0, slots := 0, locals := 0 }).room s m [.ref q, .int v].toArray below meth c H locs 0 0 (MQ below (va_Qv (fun S' => Ty cy L kap pr S' ∧ Fr kap [32] S S') (fun S' t => pB dC dI (AL L s.heap.size) (va_pl L S') (cyT cy) t) (AL L s.heap.size)) [.ref q, .int v].toArray s 0 0 (AL L s.heap.size)) (F0 m 5 ls []) := by
    intro fuel
    induction fuel with
    | zero => intro i SS H locs ls h; exact absurd h (Nat.not_lt_zero _)
    | succ fu5 ih5 =>
      intro i S_2 H locs ls hm5 hb_i hTy hFr hFl5 hW hl
      refine lv_iload_n hx hb dJ7_fill_53178_5 rfl (lv_at hl 1 rfl) ?_
      refine lv_iload_n hx hb dJ7_fill_53178_6 rfl (lv_at hl 0 rfl) ?_
      refine lv_icmp_ge (tgt := 20) hx hb dJ7_fill_53178_7 (by decide) (fun c_7 => ?_) (fun c_7 => ?_)
      · have c_7 : 8 ≤ i := (nI_leI (a := 8) (b := i) (by omega) (by omega)).mp c_7
        exact W.vret hx hb hr (fun t ht h9 => ⟨⟨S_2, rfl, ⟨hTy, hFr⟩, by rw [ht]; exact hW.1, va_K.moved h9.alike hK, hW.2.1⟩, hW.2.2.F ht⟩) hW.2.2.2.2 dJ7_fill_53178_20
      · have c_7 : ¬ (8 ≤ i) := fun hh9 => c_7 ((nI_leI (a := 8) (b := i) (by omega) (by omega)).mpr hh9)
        refine lv_aload_n hx hb dJ7_fill_53178_10 rfl (lv_at hl 2 rfl) ?_
        refine lv_iload_n hx hb dJ7_fill_53178_11 rfl (lv_at hl 1 rfl) ?_
        refine lv_iload_n hx hb dJ7_fill_53178_12 rfl (lv_at hl 3 rfl) ?_
        obtain ⟨f_3, hS_q, hi_f_3⟩ := hTy.k32 hT_q
        refine pl_iast hx hb hK hW hT_q.1 hS_q (vp_in_nI (n := i) (N := 8) (by omega) (by omega)) dJ7_fill_53178_13 (fun H locs f_5 S_4 ef_f_5 e1 hW => ?_)
        have hi_f_5 := inv32 hi_f_3 ef_f_5 (Or.inl hv)
        have hTy := hTy.u32 e1 hT_q ⟨f_5, rfl, hi_f_5⟩
        have hFr := uf hFr e1 hT_q (by decide) (by decide)
        have hFl5 := uf hFl5 e1 hT_q (by decide) (by decide)
        have hS_q := us e1
        refine lv_iinc (v := nI (i + 1)) (lv' := [(2, .int (nI (i + 1))), (3, .int 8), (0, .ref q), (1, .int v)]) hx hb dJ7_fill_53178_14 hl (k := 1) rfl (nI_add (i) 1) (by decide) rfl (fun ls hl => ?_)
        refine lv_goto (tgt := 5) hx hb dJ7_fill_53178_17 (by decide) ?_
        exact ih5 (i + 1) _ _ _ ls (by omega) (by omega) hTy hFr hFl5 hW (lv_sub hl [1, 0, 2, 3] rfl)
  exact loop ((8 - 0) + 1) 0 _ _ _ ls (Nat.lt_succ_self _) (by omega) hTy hFr Fr.rf hW (lv_sub hl [0, 1, 2, 3] rfl)

set_option maxHeartbeats 4000000 in
set_option maxRecDepth 100000 in
theorem s_msteps (l : Launch) (dC : Nat → ClassId) (dI : Nat → Nat → Nat) (cy : Nat → ClassId) (L : List Nat) (kap : Nat → Nat) (pr : Pr) (S : Nat → va_E) (sz : Nat) (o : Nat) (w : Nat) (hm : Nat) (hTy : Ty cy L kap pr S) (hT_o : TK L kap o 7) (hT_w : TK L kap w 1) (hb_hm : hm < 8) : Met l yX7_measureSteps (wT yX7_measureSteps cX7_measureSteps 7 none) ({ frames := 2, cells := 0, slots := 0, locals := 43 }) (pcN dC dI [.ref o, .ref w, .int (nI hm)] sz (va_pl L S) (cyT cy) NLs []) (va_Qv (fun S' => Ty cy L kap pr S' ∧ Fr kap [31, 32] S S') (fun S' t => pB dC dI (AL L sz) (va_pl L S') (cyT cy) t) (AL L sz)) 0 0 (AL L sz) := by
  refine Met.ofW (cc := cX7_measureSteps) (maxL := 7) (ret := none) (by decide) rfl ?_
  intro p e s m args below meth c s₁ B hml hv
  obtain ⟨rfl, hsz, hP, hK, hD0, hN, -⟩ := hv
  have hx := B.exec
  have hb := B.bytes
  have hr := B.returns
  have hT : ∀ wd ∈ TB, wd.before [.ref o, .ref w, .int (nI hm)].toArray s = true := fun wd h => atoms_spec (ws := wT yX7_measureSteps cX7_measureSteps 7 none) B.pre wd (List.mem_cons_of_mem _ h)
  have hown : s.vm.findClass RX7 = some m.cls := findClass_of_methodNamed B.named
  have hlocks := B.notSynchronized
  subst hsz
  have hW : PW dC dI L (AL L s.heap.size) s.heap S s.heap [] := ⟨hP, pl_self hD0, va_S.rf⟩
  have hA0 : ∀ q, q ∈ L → AL L s.heap.size q := fun _ h => Or.inl h
  have hA : ∀ q, s.heap.size ≤ q → AL L s.heap.size q := fun _ h => Or.inr h
  have hFr : Fr kap [31, 32] S S := Fr.rf
  have hl := lv_entry ([.ref o, .ref w, .int (nI hm)]) (n := 7) (Nat.le_of_ble_eq_true rfl)
  rw [lg_entry_eq]
  generalize (lg_sl ([.ref o, .ref w, .int (nI hm)]) ++ List.replicate (7 - (lg_sl ([.ref o, .ref w, .int (nI hm)])).length) Slot.unset).toArray = ls at hl ⊢
  have hl : lv_has ls 7 [(0, .ref o), (1, .ref w), (2, .int (nI hm))] := hl
  refine lv_aload_n hx hb dX7_measureSteps_0 rfl (lv_at hl 0 rfl) ?_
  obtain ⟨x_1, x_2, x_3, x_4, x_5, x_6, hS_o, hT_x_1, hb_x_2, hT_x_5, hT_x_6⟩ := hTy.k7 hT_o
  refine pl_get (ci := 7) (v := .ref x_5) (C := RX7) (T := TX7) (N := 6) hx hb hT iX7 hown hK hW hT_o.1 hS_o rfl 4 (by decide) w224 rfl dX7_measureSteps_1 ?_
  refine lv_iconst (v := (-1)) hx hb dX7_measureSteps_4 (by decide) ?_
  refine pl_callv (va_runS (As := [.ref x_5, .int (-1)]) (rest := []) ⟨hx, hb, hml, hown, hT⟩ (s_fillI32 l dC dI cy L kap pr S s.heap.size x_5 (-1) hTy hT_x_5 rfl) (va_cwS 2 hT (gS w689 w86 w6 w87) rfl rfl rfl (by decide +kernel) ⟨(Nat.le_of_ble_eq_true rfl), (Nat.le_of_ble_eq_true rfl)⟩) ⟨pcN.blind, pcN.pre hW.1 hK hW.2.1 hN (fun q h => absurd h List.not_mem_nil)⟩ rfl rfl hl.1 rfl (lv_room (Nat.le_of_ble_eq_true rfl)) dX7_measureSteps_5 ⟨(Nat.le_of_ble_eq_true rfl), (Nat.le_of_ble_eq_true rfl)⟩) hW hA0 hA (fun S_7 H locs hrel hW => ?_)
  obtain ⟨hTy, hF1⟩ := hrel
  have hFr := hFr.tr hF1 (by decide)
  have hS_o := hF1.at hT_o (by decide) hS_o
  refine lv_aload_n hx hb dX7_measureSteps_8 rfl (lv_at hl 0 rfl) ?_
  refine pl_get (ci := 7) (v := .ref x_5) (C := RX7) (T := TX7) (N := 6) hx hb hT iX7 hown hK hW hT_o.1 hS_o rfl 4 (by decide) w224 rfl dX7_measureSteps_9 ?_
  refine lv_iload_n hx hb dX7_measureSteps_12 rfl (lv_at hl 2 rfl) ?_
  refine lv_iconst (v := 0) hx hb dX7_measureSteps_13 (by decide) ?_
  obtain ⟨f_8, hS_x_5, hi_f_8⟩ := hTy.k32 hT_x_5
  refine pl_iast hx hb hK hW hT_x_5.1 hS_x_5 (vp_in_nI (n := hm) (N := 8) (by omega) (by omega)) dX7_measureSteps_14 (fun H locs f_10 S_9 ef_f_10 e1 hW => ?_)
  have hi_f_10 := inv32 hi_f_8 ef_f_10 (Or.inr ⟨0, by omega, rfl⟩)
  have hTy := hTy.u32 e1 hT_x_5 ⟨f_10, rfl, hi_f_10⟩
  have hS_o := un e1 hT_o hT_x_5 (by decide) hS_o
  have hFr := uf hFr e1 hT_x_5 (by decide) (by decide)
  have hS_x_5 := us e1
  refine lv_aload_n hx hb dX7_measureSteps_15 rfl (lv_at hl 0 rfl) ?_
  refine pl_get (ci := 7) (v := .ref x_6) (C := RX7) (T := TX7) (N := 6) hx hb hT iX7 hown hK hW hT_o.1 hS_o rfl 5 (by decide) w225 rfl dX7_measureSteps_16 ?_
  refine lv_iconst (v := 0) hx hb dX7_measureSteps_19 (by decide) ?_
  refine lv_iload_n hx hb dX7_measureSteps_20 rfl (lv_at hl 2 rfl) ?_
  obtain ⟨f_11, hS_x_6, hi_f_11⟩ := hTy.k31 hT_x_6
  refine pl_iast hx hb hK hW hT_x_6.1 hS_x_6 (vp_in_nI (n := 0) (N := 8) (by omega) (by omega)) dX7_measureSteps_21 (fun H locs f_13 S_12 ef_f_13 e1 hW => ?_)
  have hi_f_13 := inv_up hi_f_11 ef_f_13 ⟨hm, by omega, rfl⟩
  have hTy := hTy.u31 e1 hT_x_6 ⟨f_13, rfl, hi_f_13⟩
  have hS_o := un e1 hT_o hT_x_6 (by decide) hS_o
  have hS_x_5 := un e1 hT_x_5 hT_x_6 (by decide) hS_x_5
  have hFr := uf hFr e1 hT_x_6 (by decide) (by decide)
  have hS_x_6 := us e1
  refine lv_iconst (v := 1) hx hb dX7_measureSteps_22 (by decide) ?_
  refine lv_istore_n (lv' := [(3, .int 1), (0, .ref o), (1, .ref w), (2, .int (nI hm))]) hx hb dX7_measureSteps_23 rfl hl (by decide) rfl (fun ls hl => ?_)
  refine lv_iconst (v := 0) hx hb dX7_measureSteps_24 (by decide) ?_
  refine lv_istore (lv' := [(4, .int 0), (3, .int 1), (0, .ref o), (1, .ref w), (2, .int (nI hm))]) hx hb dX7_measureSteps_25 hl (by decide) rfl (fun ls hl => ?_)
  have loop : ∀ (fuel : Nat) (h : Nat) (t : Nat) (fs : Nat → Int32) (fq : Nat → Int32) (SS : Nat → va_E) (H : Heap) (locs : List Loc) (ls : Array Slot), 9 - h < fuel → (h ≤ 8) → (t ≤ 8) → (SS x_5 = .inl (cy 0, 8, .inl fs)) → (SS x_6 = .inl (cy 0, 8, .inl fq)) → (BI fs fq t) → Ty cy L kap pr SS → Fr kap [31, 32] S SS → Fr kap [31, 32] S_12 SS → PW dC dI L (AL L s.heap.size) s.heap SS H locs → lv_has ls 7 [(4, .int (nI h)), (3, .int (nI t)), (0, .ref o), (1, .ref w), (2, .int (nI hm))] → W p l e (headSpec (wT yX7_measureSteps cX7_measureSteps 7 none) { frames := 2, cells := 0, slots := 0, locals := 43 }).room s m [.ref o, .ref w, .int (nI hm)].toArray below meth c H locs 0 0 (MQ below (va_Qv (fun S' => Ty cy L kap pr S' ∧ Fr kap [31, 32] S S') (fun S' t => pB dC dI (AL L s.heap.size) (va_pl L S') (cyT cy) t) (AL L s.heap.size)) [.ref o, .ref w, .int (nI hm)].toArray s 0 0 (AL L s.heap.size)) (F0 m 27 ls []) := by
    intro fuel
    induction fuel with
    | zero => intro h t fs fq SS H locs ls h; exact absurd h (Nat.not_lt_zero _)
    | succ fu27 ih27 =>
      intro h t fs fq S_14 H locs ls hm27 hb_h hb_t hst hqu hBI hTy hFr hFl27 hW hl
      have hS_o := hFl27.at hT_o (by decide) hS_o
      have hi_fs := k32i hTy hT_x_5 hst
      have hi_fq := k31i hTy hT_x_6 hqu
      refine lv_iload hx hb dX7_measureSteps_27 (lv_at hl 0 rfl) ?_
      refine lv_iload_n hx hb dX7_measureSteps_29 rfl (lv_at hl 1 rfl) ?_
      refine lv_icmp_ge (tgt := 130) hx hb dX7_measureSteps_30 (by decide) (fun c_30 => ?_) (fun c_30 => ?_)
      · have c_30 : t ≤ h := (nI_leI (a := t) (b := h) (by omega) (by omega)).mp c_30
        exact W.vret hx hb hr (fun t ht h9 => ⟨⟨S_14, rfl, ⟨hTy, hFr⟩, by rw [ht]; exact hW.1, va_K.moved h9.alike hK, hW.2.1⟩, hW.2.2.F ht⟩) hW.2.2.2.2 dX7_measureSteps_130
      · have c_30 : ¬ (t ≤ h) := fun hh9 => c_30 ((nI_leI (a := t) (b := h) (by omega) (by omega)).mpr hh9)
        refine lv_iload hx hb dX7_measureSteps_33 (lv_at hl 0 rfl) ?_
        refine lv_bipush (v := 8) hx hb dX7_measureSteps_35 (by decide) ?_
        refine lv_icmp_ge (tgt := 130) hx hb dX7_measureSteps_37 (by decide) (fun c_37 => ?_) (fun c_37 => ?_)
        · have c_37 : 8 ≤ h := (nI_leI (a := 8) (b := h) (by omega) (by omega)).mp c_37
          exact W.vret hx hb hr (fun t ht h9 => ⟨⟨S_14, rfl, ⟨hTy, hFr⟩, by rw [ht]; exact hW.1, va_K.moved h9.alike hK, hW.2.1⟩, hW.2.2.F ht⟩) hW.2.2.2.2 dX7_measureSteps_130
        · have c_37 : ¬ (8 ≤ h) := fun hh9 => c_37 ((nI_leI (a := 8) (b := h) (by omega) (by omega)).mpr hh9)
          refine lv_aload_n hx hb dX7_measureSteps_40 rfl (lv_at hl 2 rfl) ?_
          refine pl_get (ci := 7) (v := .ref x_6) (C := RX7) (T := TX7) (N := 6) hx hb hT iX7 hown hK hW hT_o.1 hS_o rfl 5 (by decide) w225 rfl dX7_measureSteps_41 ?_
          refine lv_iload hx hb dX7_measureSteps_44 (lv_at hl 0 rfl) ?_
          refine pl_iald hx hb hK hW hT_x_6.1 hqu (vp_in_nI (n := h) (N := 8) (by omega) (by omega)) dX7_measureSteps_46 ?_
          refine lv_topi (fun y_15 ey_15 => ?_)
          obtain ⟨k_16, hb_k_16, hq_k_16⟩ := hi_fq (h) (by omega)
          obtain rfl : y_15 = nI k_16 := ey_15.trans (by show fq (nI (h)).toNatClampNeg = _; rw [nI_clamp (by omega)]; exact hq_k_16)
          refine lv_istore (lv' := [(5, .int (nI k_16)), (4, .int (nI h)), (3, .int (nI t)), (0, .ref o), (1, .ref w), (2, .int (nI hm))]) hx hb dX7_measureSteps_47 hl (by decide) rfl (fun ls hl => ?_)
          refine lv_iload_n hx hb dX7_measureSteps_49 rfl (lv_at hl 5 rfl) ?_
          refine lv_iconst (v := 1) hx hb dX7_measureSteps_50 (by decide) ?_
          refine lv_iadd hx hb dX7_measureSteps_51 ?_
          refine lv_topi (fun z_17 ez_17 => ?_)
          obtain rfl : z_17 = nI (hm + 1) := ez_17.trans (nI_add (hm) (1))
          refine lv_istore (lv' := [(6, .int (nI (hm + 1))), (5, .int (nI k_16)), (4, .int (nI h)), (3, .int (nI t)), (0, .ref o), (1, .ref w), (2, .int (nI hm))]) hx hb dX7_measureSteps_52 hl (by decide) rfl (fun ls hl => ?_)
          have loop : ∀ (fuel : Nat) (j : Nat) (t2 : Nat) (fs2 : Nat → Int32) (fq2 : Nat → Int32) (SS : Nat → va_E) (H : Heap) (locs : List Loc) (ls : Array Slot), 9 - j < fuel → (j ≤ 8) → (t2 ≤ 8) → (SS x_5 = .inl (cy 0, 8, .inl fs2)) → (SS x_6 = .inl (cy 0, 8, .inl fq2)) → (BI fs2 fq2 t2) → (h < t2) → (∃ d, d ≤ h ∧ fs2 k_16 = nI d) → Ty cy L kap pr SS → Fr kap [31, 32] S SS → Fr kap [31, 32] S_14 SS → PW dC dI L (AL L s.heap.size) s.heap SS H locs → lv_has ls 7 [(6, .int (nI j)), (5, .int (nI k_16)), (4, .int (nI h)), (3, .int (nI t2)), (0, .ref o), (1, .ref w), (2, .int (nI hm))] → W p l e (headSpec (wT yX7_measureSteps cX7_measureSteps 7 none) { frames := 2, cells := 0, slots := 0, locals := 43 }).room s m [.ref o, .ref w, .int (nI hm)].toArray below meth c H locs 0 0 (MQ below (va_Qv (fun S' => Ty cy L kap pr S' ∧ Fr kap [31, 32] S S') (fun S' t => pB dC dI (AL L s.heap.size) (va_pl L S') (cyT cy) t) (AL L s.heap.size)) [.ref o, .ref w, .int (nI hm)].toArray s 0 0 (AL L s.heap.size)) (F0 m 54 ls []) := by
            intro fuel
            induction fuel with
            | zero => intro j t2 fs2 fq2 SS H locs ls h; exact absurd h (Nat.not_lt_zero _)
            | succ fu54 ih54 =>
              intro j t2 fs2 fq2 S_18 H locs ls hm54 hb_j hb_t2 hst2 hqu2 hBI2 hht hrd hTy hFr hFl54 hW hl
              have hS_o := hFl54.at hT_o (by decide) hS_o
              have hFl27 := hFl27.tr hFl54 (by decide)
              have hi_fs2 := k32i hTy hT_x_5 hst2
              have hi_fq2 := k31i hTy hT_x_6 hqu2
              refine lv_iload hx hb dX7_measureSteps_54 (lv_at hl 0 rfl) ?_
              refine lv_aload_n hx hb dX7_measureSteps_56 rfl (lv_at hl 5 rfl) ?_
              obtain ⟨x_19, x_20, hS_w, hT_x_19, hb_x_20⟩ := hTy.k1 hT_w
              refine pl_get (ci := 1) (v := .int (nI x_20)) (C := RX1) (T := TX1) (N := 2) hx hb hT iX1 hown hK hW hT_w.1 hS_w rfl 1 (by decide) w201 rfl dX7_measureSteps_57 ?_
              refine lv_icmp_ge (tgt := 124) hx hb dX7_measureSteps_60 (by decide) (fun c_60 => ?_) (fun c_60 => ?_)
              · have c_60 : x_20 ≤ j := (nI_leI (a := x_20) (b := j) (by omega) (by omega)).mp c_60
                refine lv_iinc (v := nI (h + 1)) (lv' := [(4, .int (nI (h + 1))), (6, .int (nI j)), (5, .int (nI k_16)), (3, .int (nI t2)), (0, .ref o), (1, .ref w), (2, .int (nI hm))]) hx hb dX7_measureSteps_124 hl (k := 2) rfl (nI_add (h) 1) (by decide) rfl (fun ls hl => ?_)
                refine lv_goto (tgt := 27) hx hb dX7_measureSteps_127 (by decide) ?_
                exact ih27 (h + 1) t2 fs2 fq2 _ _ _ ls (by omega) (by omega) (by omega) hst2 hqu2 hBI2 hTy hFr hFl27 hW (lv_sub hl [0, 3, 4, 5, 6] rfl)
              · have c_60 : ¬ (x_20 ≤ j) := fun hh9 => c_60 ((nI_leI (a := x_20) (b := j) (by omega) (by omega)).mpr hh9)
                refine lv_iload_n hx hb dX7_measureSteps_63 rfl (lv_at hl 3 rfl) ?_
                refine lv_bipush (v := 8) hx hb dX7_measureSteps_64 (by decide) ?_
                refine lv_icmp_ge (tgt := 118) hx hb dX7_measureSteps_66 (by decide) (fun c_66 => ?_) (fun c_66 => ?_)
                · have c_66 : 8 ≤ t2 := (nI_leI (a := 8) (b := t2) (by omega) (by omega)).mp c_66
                  refine lv_iinc (v := nI (j + 1)) (lv' := [(6, .int (nI (j + 1))), (5, .int (nI k_16)), (4, .int (nI h)), (3, .int (nI t2)), (0, .ref o), (1, .ref w), (2, .int (nI hm))]) hx hb dX7_measureSteps_118 hl (k := 0) rfl (nI_add (j) 1) (by decide) rfl (fun ls hl => ?_)
                  refine lv_goto (tgt := 54) hx hb dX7_measureSteps_121 (by decide) ?_
                  exact ih54 (j + 1) t2 fs2 fq2 _ _ _ ls (by omega) (by omega) (by omega) hst2 hqu2 hBI2 (by omega) hrd hTy hFr hFl54 hW (lv_sub hl [0, 1, 2, 3, 4, 5, 6] rfl)
                · have c_66 : ¬ (8 ≤ t2) := fun hh9 => c_66 ((nI_leI (a := 8) (b := t2) (by omega) (by omega)).mpr hh9)
                  refine lv_aload_n hx hb dX7_measureSteps_69 rfl (lv_at hl 4 rfl) ?_
                  refine pl_get (ci := 7) (v := .ref x_5) (C := RX7) (T := TX7) (N := 6) hx hb hT iX7 hown hK hW hT_o.1 hS_o rfl 4 (by decide) w224 rfl dX7_measureSteps_70 ?_
                  refine lv_iload hx hb dX7_measureSteps_73 (lv_at hl 0 rfl) ?_
                  refine pl_iald hx hb hK hW hT_x_5.1 hst2 (vp_in_nI (n := j) (N := 8) (by omega) (by omega)) dX7_measureSteps_75 ?_
                  refine lv_topi (fun y_21 ey_21 => ?_)
                  have hv_y_21 := hi_fs2 (j) (by omega)
                  rw [show fs2 (j) = y_21 from (ey_21.trans (by show fs2 (nI (j)).toNatClampNeg = _; rw [nI_clamp (by omega)])).symm] at hv_y_21
                  refine lv_iconst (v := (-1)) hx hb dX7_measureSteps_76 (by decide) ?_
                  refine lv_icmp_ne (tgt := 118) hx hb dX7_measureSteps_77 (by decide) (fun c_77 => ?_) (fun c_77 => ?_)
                  · refine lv_iinc (v := nI (j + 1)) (lv' := [(6, .int (nI (j + 1))), (5, .int (nI k_16)), (4, .int (nI h)), (3, .int (nI t2)), (0, .ref o), (1, .ref w), (2, .int (nI hm))]) hx hb dX7_measureSteps_118 hl (k := 0) rfl (nI_add (j) 1) (by decide) rfl (fun ls hl => ?_)
                    refine lv_goto (tgt := 54) hx hb dX7_measureSteps_121 (by decide) ?_
                    exact ih54 (j + 1) t2 fs2 fq2 _ _ _ ls (by omega) (by omega) (by omega) hst2 hqu2 hBI2 (by omega) hrd hTy hFr hFl54 hW (lv_sub hl [0, 1, 2, 3, 4, 5, 6] rfl)
                  · refine lv_aload_n hx hb dX7_measureSteps_80 rfl (lv_at hl 5 rfl) ?_
                    refine lv_iload hx hb dX7_measureSteps_81 (lv_at hl 0 rfl) ?_
                    refine lv_iload hx hb dX7_measureSteps_83 (lv_at hl 1 rfl) ?_
                    refine vp_callSi (va_Run.run (va_runV (As := [.int (nI j), .int (nI k_16)]) (rest := []) ⟨hx, hb, hml, hown, hT⟩ (s_goes l dC dI cy L kap pr S_18 H.size w j k_16 hTy hT_w (by omega) (by omega)) (cwV 2 hT (gV w690 w691 w692 w8 w693) rfl rfl rfl (by decide +kernel) ⟨(Nat.le_of_ble_eq_true rfl), (Nat.le_of_ble_eq_true rfl)⟩) ⟨pcN.blind, pl_recv hK hW hT_w.1 hS_w rfl, pcN.pre hW.1 hK hW.2.1 hN (fun q h => absurd h List.not_mem_nil)⟩ rfl rfl hl.1 rfl (lv_room (Nat.le_of_ble_eq_true rfl)) dX7_measureSteps_85 ⟨(Nat.le_of_ble_eq_true rfl), (Nat.le_of_ble_eq_true rfl)⟩)) (fun r_22 hr_22 => ?_)
                    refine lv_if_eq (tgt := 118) hx hb dX7_measureSteps_88 (by decide) (fun c_88 => ?_) (fun c_88 => ?_)
                    · refine lv_iinc (v := nI (j + 1)) (lv' := [(6, .int (nI (j + 1))), (5, .int (nI k_16)), (4, .int (nI h)), (3, .int (nI t2)), (0, .ref o), (1, .ref w), (2, .int (nI hm))]) hx hb dX7_measureSteps_118 hl (k := 0) rfl (nI_add (j) 1) (by decide) rfl (fun ls hl => ?_)
                      refine lv_goto (tgt := 54) hx hb dX7_measureSteps_121 (by decide) ?_
                      exact ih54 (j + 1) t2 fs2 fq2 _ _ _ ls (by omega) (by omega) (by omega) hst2 hqu2 hBI2 (by omega) hrd hTy hFr hFl54 hW (lv_sub hl [0, 1, 2, 3, 4, 5, 6] rfl)
                    · refine lv_aload_n hx hb dX7_measureSteps_91 rfl (lv_at hl 4 rfl) ?_
                      refine pl_get (ci := 7) (v := .ref x_5) (C := RX7) (T := TX7) (N := 6) hx hb hT iX7 hown hK hW hT_o.1 hS_o rfl 4 (by decide) w224 rfl dX7_measureSteps_92 ?_
                      refine lv_iload hx hb dX7_measureSteps_95 (lv_at hl 0 rfl) ?_
                      refine lv_aload_n hx hb dX7_measureSteps_97 rfl (lv_at hl 4 rfl) ?_
                      refine pl_get (ci := 7) (v := .ref x_5) (C := RX7) (T := TX7) (N := 6) hx hb hT iX7 hown hK hW hT_o.1 hS_o rfl 4 (by decide) w224 rfl dX7_measureSteps_98 ?_
                      refine lv_iload hx hb dX7_measureSteps_101 (lv_at hl 1 rfl) ?_
                      refine pl_iald hx hb hK hW hT_x_5.1 hst2 (vp_in_nI (n := k_16) (N := 8) (by omega) (by omega)) dX7_measureSteps_103 ?_
                      refine lv_topi (fun y_23 ey_23 => ?_)
                      have hv_y_23 := hi_fs2 (k_16) (by omega)
                      rw [show fs2 (k_16) = y_23 from (ey_23.trans (by show fs2 (nI (k_16)).toNatClampNeg = _; rw [nI_clamp (by omega)])).symm] at hv_y_23
                      obtain ⟨d, hd, hfd⟩ := hrd
                      obtain rfl : y_23 = nI d := ey_23.trans (by show fs2 (nI (k_16)).toNatClampNeg = _; rw [nI_clamp (by omega)]; exact hfd)
                      refine lv_iconst (v := 1) hx hb dX7_measureSteps_104 (by decide) ?_
                      refine lv_iadd hx hb dX7_measureSteps_105 ?_
                      refine lv_topi (fun z_24 ez_24 => ?_)
                      obtain rfl : z_24 = nI (d + 1) := ez_24.trans (nI_add (d) (1))
                      refine pl_iast hx hb hK hW hT_x_5.1 hst2 (vp_in_nI (n := j) (N := 8) (by omega) (by omega)) dX7_measureSteps_106 (fun H locs f_26 S_25 ef_f_26 e1 hW => ?_)
                      have hi_f_26 := inv32 hi_fs2 ef_f_26 (Or.inr ⟨d + 1, by omega, rfl⟩)
                      have hTy := hTy.u32 e1 hT_x_5 ⟨f_26, rfl, hi_f_26⟩
                      have hS_o := un e1 hT_o hT_x_5 (by decide) hS_o
                      have hqu2 := un e1 hT_x_6 hT_x_5 (by decide) hqu2
                      have hS_w := un e1 hT_w hT_x_5 (by decide) hS_w
                      have hFr := uf hFr e1 hT_x_5 (by decide) (by decide)
                      have hFl27 := uf hFl27 e1 hT_x_5 (by decide) (by decide)
                      have hFl54 := uf hFl54 e1 hT_x_5 (by decide) (by decide)
                      have hst2 := us e1
                      have hmo : fs2 j = -1 := ((ey_21.trans (by show fs2 (nI (j)).toNatClampNeg = _; rw [nI_clamp (by omega)])).symm).trans c_77
                      refine lv_aload_n hx hb dX7_measureSteps_107 rfl (lv_at hl 4 rfl) ?_
                      refine pl_get (ci := 7) (v := .ref x_6) (C := RX7) (T := TX7) (N := 6) hx hb hT iX7 hown hK hW hT_o.1 hS_o rfl 5 (by decide) w225 rfl dX7_measureSteps_108 ?_
                      refine lv_iload_n hx hb dX7_measureSteps_111 rfl (lv_at hl 3 rfl) ?_
                      refine lv_iload hx hb dX7_measureSteps_112 (lv_at hl 0 rfl) ?_
                      refine pl_iast hx hb hK hW hT_x_6.1 hqu2 (vp_in_nI (n := t2) (N := 8) (by omega) (by omega)) dX7_measureSteps_114 (fun H locs f_28 S_27 ef_f_28 e1 hW => ?_)
                      have hi_f_28 := inv_up hi_fq2 ef_f_28 ⟨j, by omega, rfl⟩
                      have hTy := hTy.u31 e1 hT_x_6 ⟨f_28, rfl, hi_f_28⟩
                      have hS_o := un e1 hT_o hT_x_6 (by decide) hS_o
                      have hst2 := un e1 hT_x_5 hT_x_6 (by decide) hst2
                      have hS_w := un e1 hT_w hT_x_6 (by decide) hS_w
                      have hFr := uf hFr e1 hT_x_6 (by decide) (by decide)
                      have hFl27 := uf hFl27 e1 hT_x_6 (by decide) (by decide)
                      have hFl54 := uf hFl54 e1 hT_x_6 (by decide) (by decide)
                      have hqu2 := us e1
                      have hBI3 := BIadd hBI2 ef_f_26 ef_f_28 (by omega) (by omega) hht hd hmo
                      have hrd3 := rdadd ef_f_26 (by omega) hmo hfd (by omega)
                      refine lv_iinc (v := nI (t2 + 1)) (lv' := [(3, .int (nI (t2 + 1))), (6, .int (nI j)), (5, .int (nI k_16)), (4, .int (nI h)), (0, .ref o), (1, .ref w), (2, .int (nI hm))]) hx hb dX7_measureSteps_115 hl (k := 3) rfl (nI_add (t2) 1) (by decide) rfl (fun ls hl => ?_)
                      refine lv_iinc (v := nI (j + 1)) (lv' := [(6, .int (nI (j + 1))), (3, .int (nI (t2 + 1))), (5, .int (nI k_16)), (4, .int (nI h)), (0, .ref o), (1, .ref w), (2, .int (nI hm))]) hx hb dX7_measureSteps_118 hl (k := 1) rfl (nI_add (j) 1) (by decide) rfl (fun ls hl => ?_)
                      refine lv_goto (tgt := 54) hx hb dX7_measureSteps_121 (by decide) ?_
                      exact ih54 (j + 1) (t2 + 1) f_26 f_28 _ _ _ ls (by omega) (by omega) (by omega) hst2 hqu2 hBI3 (by omega) ⟨d, hd, hrd3⟩ hTy hFr hFl54 hW (lv_sub hl [0, 2, 3, 1, 4, 5, 6] rfl)
          exact loop ((9 - (hm + 1)) + 1) (hm + 1) t fs fq _ _ _ ls (Nat.lt_succ_self _) (by omega) (by omega) hst hqu hBI (by omega) (BIr hBI (by omega) hq_k_16 (by omega)) hTy hFr Fr.rf hW (lv_sub hl [0, 1, 2, 3, 4, 5, 6] rfl)
  exact loop ((9 - 0) + 1) 0 1 f_10 f_13 _ _ _ ls (Nat.lt_succ_self _) (by omega) (by omega) hS_x_5 hS_x_6 (BI1 ef_f_10 ef_f_13 hb_hm) hTy hFr Fr.rf hW (lv_sub hl [0, 1, 2, 3, 4] rfl)
