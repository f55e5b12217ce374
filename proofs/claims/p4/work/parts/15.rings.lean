set_option maxHeartbeats 4000000 in
set_option maxRecDepth 100000 in
theorem s_after (l : Launch) (dC : Nat → ClassId) (dI : Nat → Nat → Nat) (cy : Nat → ClassId) (L : List Nat) (kap : Nat → Nat) (pr : Pr) (S : Nat → va_E) (sz : Nat) (o : Nat) (i : Nat) (hTy : Ty cy L kap pr S) (hT_o : TK L kap o 7) (hb_i : i < 8) : Met l yX7_after (wT yX7_after cX7_after 2 (some .int)) ({ frames := 0, cells := 0, slots := 0, locals := 0 }) (pcN dC dI [.ref o, .int (nI i)] sz (va_pl L S) (cyT cy) NLs []) (vp_Si (fun r => ∃ k, k < 8 ∧ r = nI k)) 0 0 (fun _ => False) := by
  refine Met.ofW (cc := cX7_after) (maxL := 2) (ret := (some .int)) (by decide) rfl ?_
  intro p e s m args below meth c s₁ B hml hv
  obtain ⟨rfl, hsz, hP, hK, hD0, hN, -⟩ := hv
  have hx := B.exec
  have hb := B.bytes
  have hr := B.returns
  have hT : ∀ wd ∈ TB, wd.before [.ref o, .int (nI i)].toArray s = true := fun wd h => atoms_spec (ws := wT yX7_after cX7_after 2 (some .int)) B.pre wd (List.mem_cons_of_mem _ h)
  have hown : s.vm.findClass RX7 = some m.cls := findClass_of_methodNamed B.named
  have hlocks := B.notSynchronized
  subst hsz
  have hW : PW dC dI L (AL L s.heap.size) s.heap S s.heap [] := ⟨hP, pl_self hD0, va_S.rf⟩
  have hFr : Fr kap [] S S := Fr.rf
  have hl := lv_entry ([.ref o, .int (nI i)]) (n := 2) (Nat.le_of_ble_eq_true rfl)
  rw [lg_entry_eq]
  generalize (lg_sl ([.ref o, .int (nI i)]) ++ List.replicate (2 - (lg_sl ([.ref o, .int (nI i)])).length) Slot.unset).toArray = ls at hl ⊢
  have hl : lv_has ls 2 [(0, .ref o), (1, .int (nI i))] := hl
  refine lv_iload_n hx hb dX7_after_0 rfl (lv_at hl 1 rfl) ?_
  refine lv_iconst (v := 1) hx hb dX7_after_1 (by decide) ?_
  refine lv_iadd hx hb dX7_after_2 ?_
  refine lv_topi (fun z_1 ez_1 => ?_)
  obtain rfl : z_1 = nI (i + 1) := ez_1.trans (nI_add (i) (1))
  refine lv_aload_n hx hb dX7_after_3 rfl (lv_at hl 0 rfl) ?_
  obtain ⟨x_2, x_3, x_4, x_5, x_6, x_7, hS_o, hT_x_2, hb_x_3, hT_x_6, hT_x_7⟩ := hTy.k7 hT_o
  refine pl_get (ci := 7) (v := .int (nI x_3)) (C := RX7) (T := TX7) (N := 6) hx hb hT iX7 hown hK hW hT_o.1 hS_o rfl 1 (by decide) w218 rfl dX7_after_4 ?_
  refine lv_icmp_ge (tgt := 16) hx hb dX7_after_7 (by decide) (fun c_7 => ?_) (fun c_7 => ?_)
  · have c_7 : x_3 ≤ (i + 1) := (nI_leI (a := x_3) (b := i + 1) (by omega) (by omega)).mp c_7
    refine lv_iconst (v := 0) hx hb dX7_after_16 (by decide) ?_
    exact W.iret (v := 0) hx hb hr (fun t ht h9 => ⟨0, rfl, ⟨0, by omega, rfl⟩, ht⟩) (fun q h => by cases h) dX7_after_17
  · have c_7 : ¬ (x_3 ≤ (i + 1)) := fun hh9 => c_7 ((nI_leI (a := x_3) (b := i + 1) (by omega) (by omega)).mpr hh9)
    refine lv_iload_n hx hb dX7_after_10 rfl (lv_at hl 1 rfl) ?_
    refine lv_iconst (v := 1) hx hb dX7_after_11 (by decide) ?_
    refine lv_iadd hx hb dX7_after_12 ?_
    refine lv_topi (fun z_8 ez_8 => ?_)
    obtain rfl : z_8 = nI (i + 1) := ez_8.trans (nI_add (i) (1))
    refine lv_goto (tgt := 17) hx hb dX7_after_13 (by decide) ?_
    exact W.iret (v := nI (i + 1)) hx hb hr (fun t ht h9 => ⟨nI (i + 1), rfl, ⟨i + 1, by omega, rfl⟩, ht⟩) (fun q h => by cases h) dX7_after_17

set_option maxHeartbeats 4000000 in
set_option maxRecDepth 100000 in
theorem s_leastFlow (l : Launch) (dC : Nat → ClassId) (dI : Nat → Nat → Nat) (cy : Nat → ClassId) (L : List Nat) (kap : Nat → Nat) (pr : Pr) (S : Nat → va_E) (sz : Nat) (o : Nat) (w : Nat) (hTy : Ty cy L kap pr S) (hT_o : TK L kap o 7) (hT_w : TK L kap w 1) : Met l yX7_leastFlow (wT yX7_leastFlow cX7_leastFlow 5 (some .long)) ({ frames := 1, cells := 0, slots := 0, locals := 40 }) (pcN dC dI [.ref o, .ref w] sz (va_pl L S) (cyT cy) NLs []) (vp_Sl (fun r => True)) 0 0 (fun _ => False) := by
  refine Met.ofW (cc := cX7_leastFlow) (maxL := 5) (ret := (some .long)) (by decide) rfl ?_
  intro p e s m args below meth c s₁ B hml hv
  obtain ⟨rfl, hsz, hP, hK, hD0, hN, -⟩ := hv
  have hx := B.exec
  have hb := B.bytes
  have hr := B.returns
  have hT : ∀ wd ∈ TB, wd.before [.ref o, .ref w].toArray s = true := fun wd h => atoms_spec (ws := wT yX7_leastFlow cX7_leastFlow 5 (some .long)) B.pre wd (List.mem_cons_of_mem _ h)
  have hown : s.vm.findClass RX7 = some m.cls := findClass_of_methodNamed B.named
  have hlocks := B.notSynchronized
  subst hsz
  have hW : PW dC dI L (AL L s.heap.size) s.heap S s.heap [] := ⟨hP, pl_self hD0, va_S.rf⟩
  have hFr : Fr kap [] S S := Fr.rf
  have hl := lv_entry ([.ref o, .ref w]) (n := 5) (Nat.le_of_ble_eq_true rfl)
  rw [lg_entry_eq]
  generalize (lg_sl ([.ref o, .ref w]) ++ List.replicate (5 - (lg_sl ([.ref o, .ref w])).length) Slot.unset).toArray = ls at hl ⊢
  have hl : lv_has ls 5 [(0, .ref o), (1, .ref w)] := hl
  refine lv_aload_n hx hb dX7_leastFlow_0 rfl (lv_at hl 1 rfl) ?_
  obtain ⟨x_1, x_2, hS_w, hT_x_1, hb_x_2⟩ := hTy.k1 hT_w
  refine pl_get (ci := 1) (v := .ref x_1) (C := RX1) (T := TX1) (N := 2) hx hb hT iX1 hown hK hW hT_w.1 hS_w rfl 0 (by decide) w198 rfl dX7_leastFlow_1 ?_
  refine lv_aload_n hx hb dX7_leastFlow_4 rfl (lv_at hl 0 rfl) ?_
  obtain ⟨x_3, x_4, x_5, x_6, x_7, x_8, hS_o, hT_x_3, hb_x_4, hT_x_7, hT_x_8⟩ := hTy.k7 hT_o
  refine pl_get (ci := 7) (v := .ref x_3) (C := RX7) (T := TX7) (N := 6) hx hb hT iX7 hown hK hW hT_o.1 hS_o rfl 0 (by decide) w216 rfl dX7_leastFlow_5 ?_
  refine lv_iconst (v := 0) hx hb dX7_leastFlow_8 (by decide) ?_
  obtain ⟨f_9, hS_x_3, hi_f_9⟩ := hTy.k42 hT_x_3
  refine pl_iald hx hb hK hW hT_x_3.1 hS_x_3 (vp_in_nI (n := 0) (N := 8) (by omega) (by omega)) dX7_leastFlow_9 ?_
  refine lv_topi (fun y_10 ey_10 => ?_)
  obtain ⟨k_11, hb_k_11, hq_k_11⟩ := hi_f_9 (0) (by omega)
  obtain rfl : y_10 = nI k_11 := ey_10.trans (by show f_9 (nI (0)).toNatClampNeg = _; rw [nI_clamp (by omega)]; exact hq_k_11)
  refine lv_aload_n hx hb dX7_leastFlow_10 rfl (lv_at hl 0 rfl) ?_
  refine pl_get (ci := 7) (v := .ref x_3) (C := RX7) (T := TX7) (N := 6) hx hb hT iX7 hown hK hW hT_o.1 hS_o rfl 0 (by decide) w216 rfl dX7_leastFlow_11 ?_
  refine lv_aload_n hx hb dX7_leastFlow_14 rfl (lv_at hl 0 rfl) ?_
  refine lv_iconst (v := 0) hx hb dX7_leastFlow_15 (by decide) ?_
  refine vp_callSi (va_Run.run (va_runV (As := [.int 0]) (rest := [.ref x_3, .int (nI k_11), .ref x_1]) ⟨hx, hb, hml, hown, hT⟩ (s_after l dC dI cy L kap pr S s.heap.size o 0 hTy hT_o (by omega)) (cwV 1 hT (gV w710 w711 w712 w9 w713) rfl rfl rfl (by decide +kernel) ⟨(Nat.le_of_ble_eq_true rfl), (Nat.le_of_ble_eq_true rfl)⟩) ⟨pcN.blind, pl_recv hK hW hT_o.1 hS_o rfl, pcN.pre hW.1 hK hW.2.1 hN (fun q h => absurd h List.not_mem_nil)⟩ rfl rfl hl.1 rfl (lv_room (Nat.le_of_ble_eq_true rfl)) dX7_leastFlow_16 ⟨(Nat.le_of_ble_eq_true rfl), (Nat.le_of_ble_eq_true rfl)⟩)) (fun r_12 hr_12 => ?_)
  obtain ⟨k_13, hb_k_13, rfl⟩ := hr_12
  refine pl_iald hx hb hK hW hT_x_3.1 hS_x_3 (vp_in_nI (n := k_13) (N := 8) (by omega) (by omega)) dX7_leastFlow_19 ?_
  refine lv_topi (fun y_14 ey_14 => ?_)
  obtain ⟨k_15, hb_k_15, hq_k_15⟩ := hi_f_9 (k_13) (by omega)
  obtain rfl : y_14 = nI k_15 := ey_14.trans (by show f_9 (nI (k_13)).toNatClampNeg = _; rw [nI_clamp (by omega)]; exact hq_k_15)
  refine vp_callSi (va_Run.run (va_runSN (As := [.int (nI k_11), .int (nI k_15)]) (rest := [.ref x_1]) ⟨hx, hb, hml, hown, hT⟩ (s_cell l dC dI s.heap.size k_11 k_15 (by omega) (by omega)) ⟨va_cnB 2 hT (gT w577) rfl rfl rfl (hN (RX7, 49, yX11_cell, RX11) (by decide +kernel)) (hT _ w1) (by decide +kernel) ⟨(Nat.le_of_ble_eq_true rfl), (Nat.le_of_ble_eq_true rfl)⟩, (hT _ w576), trivial⟩ ⟨pcW.blind, pcW.pre (va_P0 _ _ _) (hK.sub (tys' := []) [] rfl) (va_D0 (fun _ => True))⟩ rfl rfl hl.1 rfl (lv_room (Nat.le_of_ble_eq_true rfl)) dX7_leastFlow_20 ⟨(Nat.le_of_ble_eq_true rfl), (Nat.le_of_ble_eq_true rfl)⟩)) (fun r_16 hr_16 => ?_)
  obtain rfl : r_16 = nI (k_11 * 8 + k_15) := hr_16
  obtain ⟨f_17, hS_x_1⟩ := hTy.k29 hT_x_1
  refine pl_lald hx hb hK hW hT_x_1.1 hS_x_1 (vp_in_nI (n := k_11 * 8 + k_15) (N := 64) (by omega) (by omega)) dX7_leastFlow_23 ?_
  refine lv_topl (fun y_18 ey_18 => ?_)
  refine lv_lstore_n (lv' := [(2, .long y_18), (0, .ref o), (1, .ref w)]) hx hb dX7_leastFlow_24 rfl hl (by decide) rfl (fun ls hl => ?_)
  refine lv_iconst (v := 1) hx hb dX7_leastFlow_25 (by decide) ?_
  refine lv_istore (lv' := [(4, .int 1), (2, .long y_18), (0, .ref o), (1, .ref w)]) hx hb dX7_leastFlow_26 hl (by decide) rfl (fun ls hl => ?_)
  have loop : ∀ (fuel : Nat) (i : Nat) (sm : Int64) (ls : Array Slot), 9 - i < fuel → (i ≤ 8) → lv_has ls 5 [(4, .int (nI i)), (2, .long sm), (0, .ref o), (1, .ref w)] → W p l e (headSpec (wT yX7_leastFlow cX7_leastFlow 5 (some .long)) { frames := 1, cells := 0, slots := 0, locals := 40 }).room s m [.ref o, .ref w].toArray below meth c s.heap [] 0 0 (MQ below (vp_Sl (fun r => True)) [.ref o, .ref w].toArray s 0 0 (fun _ => False)) (F0 m 28 ls []) := by
    intro fuel
    induction fuel with
    | zero => intro i sm ls h; exact absurd h (Nat.not_lt_zero _)
    | succ fu28 ih28 =>
      intro i sm ls hm28 hb_i hl
      refine lv_iload hx hb dX7_leastFlow_28 (lv_at hl 0 rfl) ?_
      refine lv_aload_n hx hb dX7_leastFlow_30 rfl (lv_at hl 2 rfl) ?_
      refine pl_get (ci := 7) (v := .int (nI x_4)) (C := RX7) (T := TX7) (N := 6) hx hb hT iX7 hown hK hW hT_o.1 hS_o rfl 1 (by decide) w218 rfl dX7_leastFlow_31 ?_
      refine lv_icmp_ge (tgt := 74) hx hb dX7_leastFlow_34 (by decide) (fun c_34 => ?_) (fun c_34 => ?_)
      · have c_34 : x_4 ≤ i := (nI_leI (a := x_4) (b := i) (by omega) (by omega)).mp c_34
        refine lv_lload_n hx hb dX7_leastFlow_74 rfl (lv_at hl 1 rfl) ?_
        exact W.lret (v := sm) hx hb hr (fun t ht h9 => ⟨sm, rfl, trivial, ht⟩) (fun q h => by cases h) dX7_leastFlow_75
      · have c_34 : ¬ (x_4 ≤ i) := fun hh9 => c_34 ((nI_leI (a := x_4) (b := i) (by omega) (by omega)).mpr hh9)
        refine lv_lload_n hx hb dX7_leastFlow_37 rfl (lv_at hl 1 rfl) ?_
        refine lv_aload_n hx hb dX7_leastFlow_38 rfl (lv_at hl 3 rfl) ?_
        refine pl_get (ci := 1) (v := .ref x_1) (C := RX1) (T := TX1) (N := 2) hx hb hT iX1 hown hK hW hT_w.1 hS_w rfl 0 (by decide) w198 rfl dX7_leastFlow_39 ?_
        refine lv_aload_n hx hb dX7_leastFlow_42 rfl (lv_at hl 2 rfl) ?_
        refine pl_get (ci := 7) (v := .ref x_3) (C := RX7) (T := TX7) (N := 6) hx hb hT iX7 hown hK hW hT_o.1 hS_o rfl 0 (by decide) w216 rfl dX7_leastFlow_43 ?_
        refine lv_iload hx hb dX7_leastFlow_46 (lv_at hl 0 rfl) ?_
        refine pl_iald hx hb hK hW hT_x_3.1 hS_x_3 (vp_in_nI (n := i) (N := 8) (by omega) (by omega)) dX7_leastFlow_48 ?_
        refine lv_topi (fun y_19 ey_19 => ?_)
        obtain ⟨k_20, hb_k_20, hq_k_20⟩ := hi_f_9 (i) (by omega)
        obtain rfl : y_19 = nI k_20 := ey_19.trans (by show f_9 (nI (i)).toNatClampNeg = _; rw [nI_clamp (by omega)]; exact hq_k_20)
        refine lv_aload_n hx hb dX7_leastFlow_49 rfl (lv_at hl 2 rfl) ?_
        refine pl_get (ci := 7) (v := .ref x_3) (C := RX7) (T := TX7) (N := 6) hx hb hT iX7 hown hK hW hT_o.1 hS_o rfl 0 (by decide) w216 rfl dX7_leastFlow_50 ?_
        refine lv_aload_n hx hb dX7_leastFlow_53 rfl (lv_at hl 2 rfl) ?_
        refine lv_iload hx hb dX7_leastFlow_54 (lv_at hl 0 rfl) ?_
        refine vp_callSi (va_Run.run (va_runV (As := [.int (nI i)]) (rest := [.ref x_3, .int (nI k_20), .ref x_1, .long sm]) ⟨hx, hb, hml, hown, hT⟩ (s_after l dC dI cy L kap pr S s.heap.size o i hTy hT_o (by omega)) (cwV 1 hT (gV w710 w711 w712 w9 w713) rfl rfl rfl (by decide +kernel) ⟨(Nat.le_of_ble_eq_true rfl), (Nat.le_of_ble_eq_true rfl)⟩) ⟨pcN.blind, pl_recv hK hW hT_o.1 hS_o rfl, pcN.pre hW.1 hK hW.2.1 hN (fun q h => absurd h List.not_mem_nil)⟩ rfl rfl hl.1 rfl (lv_room (Nat.le_of_ble_eq_true rfl)) dX7_leastFlow_56 ⟨(Nat.le_of_ble_eq_true rfl), (Nat.le_of_ble_eq_true rfl)⟩)) (fun r_21 hr_21 => ?_)
        obtain ⟨k_22, hb_k_22, rfl⟩ := hr_21
        refine pl_iald hx hb hK hW hT_x_3.1 hS_x_3 (vp_in_nI (n := k_22) (N := 8) (by omega) (by omega)) dX7_leastFlow_59 ?_
        refine lv_topi (fun y_23 ey_23 => ?_)
        obtain ⟨k_24, hb_k_24, hq_k_24⟩ := hi_f_9 (k_22) (by omega)
        obtain rfl : y_23 = nI k_24 := ey_23.trans (by show f_9 (nI (k_22)).toNatClampNeg = _; rw [nI_clamp (by omega)]; exact hq_k_24)
        refine vp_callSi (va_Run.run (va_runSN (As := [.int (nI k_20), .int (nI k_24)]) (rest := [.ref x_1, .long sm]) ⟨hx, hb, hml, hown, hT⟩ (s_cell l dC dI s.heap.size k_20 k_24 (by omega) (by omega)) ⟨va_cnB 2 hT (gT w577) rfl rfl rfl (hN (RX7, 49, yX11_cell, RX11) (by decide +kernel)) (hT _ w1) (by decide +kernel) ⟨(Nat.le_of_ble_eq_true rfl), (Nat.le_of_ble_eq_true rfl)⟩, (hT _ w576), trivial⟩ ⟨pcW.blind, pcW.pre (va_P0 _ _ _) (hK.sub (tys' := []) [] rfl) (va_D0 (fun _ => True))⟩ rfl rfl hl.1 rfl (lv_room (Nat.le_of_ble_eq_true rfl)) dX7_leastFlow_60 ⟨(Nat.le_of_ble_eq_true rfl), (Nat.le_of_ble_eq_true rfl)⟩)) (fun r_25 hr_25 => ?_)
        obtain rfl : r_25 = nI (k_20 * 8 + k_24) := hr_25
        refine pl_lald hx hb hK hW hT_x_1.1 hS_x_1 (vp_in_nI (n := k_20 * 8 + k_24) (N := 64) (by omega) (by omega)) dX7_leastFlow_63 ?_
        refine lv_topl (fun y_26 ey_26 => ?_)
        refine va_mmin_long hx hb (hml.trans hl.1.symm) hown (hT _ w715) (hT _ w716) (hT _ w15) (hT _ w717) (Nat.le_of_ble_eq_true rfl) (Nat.le_of_ble_eq_true rfl) (Nat.le_of_ble_eq_true rfl) (Nat.le_of_ble_eq_true rfl) dX7_leastFlow_64 ?_
        refine lv_topl (fun z_27 ez_27 => ?_)
        refine lv_lstore_n (lv' := [(2, .long z_27), (4, .int (nI i)), (0, .ref o), (1, .ref w)]) hx hb dX7_leastFlow_67 rfl hl (by decide) rfl (fun ls hl => ?_)
        refine lv_iinc (v := nI (i + 1)) (lv' := [(4, .int (nI (i + 1))), (2, .long z_27), (0, .ref o), (1, .ref w)]) hx hb dX7_leastFlow_68 hl (k := 1) rfl (nI_add (i) 1) (by decide) rfl (fun ls hl => ?_)
        refine lv_goto (tgt := 28) hx hb dX7_leastFlow_71 (by decide) ?_
        exact ih28 (i + 1) z_27 ls (by omega) (by omega) (lv_sub hl [0, 1, 2, 3] rfl)
  exact loop ((9 - 1) + 1) 1 y_18 ls (Nat.lt_succ_self _) (by omega) (lv_sub hl [0, 1, 2, 3] rfl)

set_option maxHeartbeats 4000000 in
set_option maxRecDepth 100000 in
theorem s_gnext (l : Launch) (dC : Nat → ClassId) (dI : Nat → Nat → Nat) (cy : Nat → ClassId) (L : List Nat) (kap : Nat → Nat) (pr : Pr) (S : Nat → va_E) (sz : Nat) (o : Nat) (w : Nat) (cu : Nat) (hm : Nat) (st : Int32) (hTy : Ty cy L kap pr S) (hT_o : TK L kap o 7) (hT_w : TK L kap w 1) (hb_cu : cu < 8) (hb_hm : hm < 8) : Met l yX7_nextOf (wT yX7_nextOf cX7_nextOf 6 (some .int)) ({ frames := 2, cells := 0, slots := 0, locals := 43 }) (pcN dC dI [.ref o, .ref w, .int (nI cu), .int (nI hm), .int st] sz (va_pl L S) (cyT cy) NLs []) (vp_Si (fun r => ∃ k, k < 8 ∧ r = nI k)) 0 0 (fun _ => False) := by
  refine Met.ofW (cc := cX7_nextOf) (maxL := 6) (ret := (some .int)) (by decide) rfl ?_
  intro p e s m args below meth c s₁ B hml hv
  obtain ⟨rfl, hsz, hP, hK, hD0, hN, -⟩ := hv
  have hx := B.exec
  have hb := B.bytes
  have hr := B.returns
  have hT : ∀ wd ∈ TB, wd.before [.ref o, .ref w, .int (nI cu), .int (nI hm), .int st].toArray s = true := fun wd h => atoms_spec (ws := wT yX7_nextOf cX7_nextOf 6 (some .int)) B.pre wd (List.mem_cons_of_mem _ h)
  have hown : s.vm.findClass RX7 = some m.cls := findClass_of_methodNamed B.named
  have hlocks := B.notSynchronized
  subst hsz
  have hW : PW dC dI L (AL L s.heap.size) s.heap S s.heap [] := ⟨hP, pl_self hD0, va_S.rf⟩
  have hFr : Fr kap [] S S := Fr.rf
  have hl := lv_entry ([.ref o, .ref w, .int (nI cu), .int (nI hm), .int st]) (n := 6) (Nat.le_of_ble_eq_true rfl)
  rw [lg_entry_eq]
  generalize (lg_sl ([.ref o, .ref w, .int (nI cu), .int (nI hm), .int st]) ++ List.replicate (6 - (lg_sl ([.ref o, .ref w, .int (nI cu), .int (nI hm), .int st])).length) Slot.unset).toArray = ls at hl ⊢
  have hl : lv_has ls 6 [(0, .ref o), (1, .ref w), (2, .int (nI cu)), (3, .int (nI hm)), (4, .int st)] := hl
  refine lv_iload_n hx hb dX7_nextOf_0 rfl (lv_at hl 3 rfl) ?_
  refine lv_iconst (v := 1) hx hb dX7_nextOf_1 (by decide) ?_
  refine lv_iadd hx hb dX7_nextOf_2 ?_
  refine lv_topi (fun z_1 ez_1 => ?_)
  obtain rfl : z_1 = nI (hm + 1) := ez_1.trans (nI_add (hm) (1))
  refine lv_istore (lv' := [(5, .int (nI (hm + 1))), (0, .ref o), (1, .ref w), (2, .int (nI cu)), (3, .int (nI hm)), (4, .int st)]) hx hb dX7_nextOf_3 hl (by decide) rfl (fun ls hl => ?_)
  have loop : ∀ (fuel : Nat) (j : Nat) (ls : Array Slot), 9 - j < fuel → (j ≤ 8) → lv_has ls 6 [(5, .int (nI j)), (0, .ref o), (1, .ref w), (2, .int (nI cu)), (3, .int (nI hm)), (4, .int st)] → W p l e (headSpec (wT yX7_nextOf cX7_nextOf 6 (some .int)) { frames := 2, cells := 0, slots := 0, locals := 43 }).room s m [.ref o, .ref w, .int (nI cu), .int (nI hm), .int st].toArray below meth c s.heap [] 0 0 (MQ below (vp_Si (fun r => ∃ k, k < 8 ∧ r = nI k)) [.ref o, .ref w, .int (nI cu), .int (nI hm), .int st].toArray s 0 0 (fun _ => False)) (F0 m 5 ls []) := by
    intro fuel
    induction fuel with
    | zero => intro j ls h; exact absurd h (Nat.not_lt_zero _)
    | succ fu5 ih5 =>
      intro j ls hm5 hb_j hl
      refine lv_iload hx hb dX7_nextOf_5 (lv_at hl 0 rfl) ?_
      refine lv_aload_n hx hb dX7_nextOf_7 rfl (lv_at hl 2 rfl) ?_
      obtain ⟨x_2, x_3, hS_w, hT_x_2, hb_x_3⟩ := hTy.k1 hT_w
      refine pl_get (ci := 1) (v := .int (nI x_3)) (C := RX1) (T := TX1) (N := 2) hx hb hT iX1 hown hK hW hT_w.1 hS_w rfl 1 (by decide) w201 rfl dX7_nextOf_8 ?_
      refine lv_icmp_ge (tgt := 45) hx hb dX7_nextOf_11 (by decide) (fun c_11 => ?_) (fun c_11 => ?_)
      · have c_11 : x_3 ≤ j := (nI_leI (a := x_3) (b := j) (by omega) (by omega)).mp c_11
        refine lv_iload_n hx hb dX7_nextOf_45 rfl (lv_at hl 4 rfl) ?_
        exact W.iret (v := nI hm) hx hb hr (fun t ht h9 => ⟨nI hm, rfl, ⟨hm, by omega, rfl⟩, ht⟩) (fun q h => by cases h) dX7_nextOf_46
      · have c_11 : ¬ (x_3 ≤ j) := fun hh9 => c_11 ((nI_leI (a := x_3) (b := j) (by omega) (by omega)).mpr hh9)
        refine lv_aload_n hx hb dX7_nextOf_14 rfl (lv_at hl 1 rfl) ?_
        obtain ⟨x_4, x_5, x_6, x_7, x_8, x_9, hS_o, hT_x_4, hb_x_5, hT_x_8, hT_x_9⟩ := hTy.k7 hT_o
        refine pl_get (ci := 7) (v := .ref x_8) (C := RX7) (T := TX7) (N := 6) hx hb hT iX7 hown hK hW hT_o.1 hS_o rfl 4 (by decide) w224 rfl dX7_nextOf_15 ?_
        refine lv_iload hx hb dX7_nextOf_18 (lv_at hl 0 rfl) ?_
        obtain ⟨f_10, hS_x_8, hi_f_10⟩ := hTy.k32 hT_x_8
        refine pl_iald hx hb hK hW hT_x_8.1 hS_x_8 (vp_in_nI (n := j) (N := 8) (by omega) (by omega)) dX7_nextOf_20 ?_
        refine lv_topi (fun y_11 ey_11 => ?_)
        have hv_y_11 := hi_f_10 (j) (by omega)
        rw [show f_10 (j) = y_11 from (ey_11.trans (by show f_10 (nI (j)).toNatClampNeg = _; rw [nI_clamp (by omega)])).symm] at hv_y_11
        refine lv_iload hx hb dX7_nextOf_21 (lv_at hl 5 rfl) ?_
        refine lv_icmp_ne (tgt := 39) hx hb dX7_nextOf_23 (by decide) (fun c_23 => ?_) (fun c_23 => ?_)
        · refine lv_iinc (v := nI (j + 1)) (lv' := [(5, .int (nI (j + 1))), (0, .ref o), (1, .ref w), (2, .int (nI cu)), (3, .int (nI hm)), (4, .int st)]) hx hb dX7_nextOf_39 hl (k := 0) rfl (nI_add (j) 1) (by decide) rfl (fun ls hl => ?_)
          refine lv_goto (tgt := 5) hx hb dX7_nextOf_42 (by decide) ?_
          exact ih5 (j + 1) ls (by omega) (by omega) (lv_sub hl [0, 1, 2, 3, 4, 5] rfl)
        · refine lv_aload_n hx hb dX7_nextOf_26 rfl (lv_at hl 2 rfl) ?_
          refine lv_iload_n hx hb dX7_nextOf_27 rfl (lv_at hl 3 rfl) ?_
          refine lv_iload hx hb dX7_nextOf_28 (lv_at hl 0 rfl) ?_
          refine vp_callSi (va_Run.run (va_runV (As := [.int (nI cu), .int (nI j)]) (rest := []) ⟨hx, hb, hml, hown, hT⟩ (s_goes l dC dI cy L kap pr S s.heap.size w cu j hTy hT_w (by omega) (by omega)) (cwV 2 hT (gV w690 w691 w692 w8 w693) rfl rfl rfl (by decide +kernel) ⟨(Nat.le_of_ble_eq_true rfl), (Nat.le_of_ble_eq_true rfl)⟩) ⟨pcN.blind, pl_recv hK hW hT_w.1 hS_w rfl, pcN.pre hW.1 hK hW.2.1 hN (fun q h => absurd h List.not_mem_nil)⟩ rfl rfl hl.1 rfl (lv_room (Nat.le_of_ble_eq_true rfl)) dX7_nextOf_30 ⟨(Nat.le_of_ble_eq_true rfl), (Nat.le_of_ble_eq_true rfl)⟩)) (fun r_12 hr_12 => ?_)
          refine lv_if_eq (tgt := 39) hx hb dX7_nextOf_33 (by decide) (fun c_33 => ?_) (fun c_33 => ?_)
          · refine lv_iinc (v := nI (j + 1)) (lv' := [(5, .int (nI (j + 1))), (0, .ref o), (1, .ref w), (2, .int (nI cu)), (3, .int (nI hm)), (4, .int st)]) hx hb dX7_nextOf_39 hl (k := 0) rfl (nI_add (j) 1) (by decide) rfl (fun ls hl => ?_)
            refine lv_goto (tgt := 5) hx hb dX7_nextOf_42 (by decide) ?_
            exact ih5 (j + 1) ls (by omega) (by omega) (lv_sub hl [0, 1, 2, 3, 4, 5] rfl)
          · refine lv_iload hx hb dX7_nextOf_36 (lv_at hl 0 rfl) ?_
            exact W.iret (v := nI j) hx hb hr (fun t ht h9 => ⟨nI j, rfl, ⟨j, by omega, rfl⟩, ht⟩) (fun q h => by cases h) dX7_nextOf_38
  exact loop ((9 - (hm + 1)) + 1) (hm + 1) ls (Nat.lt_succ_self _) (by omega) (lv_sub hl [0, 1, 2, 3, 4, 5] rfl)

set_option maxHeartbeats 4000000 in
set_option maxRecDepth 100000 in
theorem s_walk (l : Launch) (dC : Nat → ClassId) (dI : Nat → Nat → Nat) (cy : Nat → ClassId) (L : List Nat) (kap : Nat → Nat) (pr : Pr) (S : Nat → va_E) (sz : Nat) (o : Nat) (w : Nat) (hm : Nat) (hTy : Ty cy L kap pr S) (hT_o : TK L kap o 7) (hT_w : TK L kap w 1) (hb_hm : hm < 8) : Met l yX7_walk (wT yX7_walk cX7_walk 4 none) ({ frames := 3, cells := 0, slots := 0, locals := 68 }) (pcN dC dI [.ref o, .ref w, .int (nI hm)] sz (va_pl L S) (cyT cy) NLs []) (va_Qv (fun S' => Ty cy L kap pr S' ∧ Fr kap [42] S S') (fun S' t => pB dC dI (AL L sz) (va_pl L S') (cyT cy) t) (AL L sz)) 0 0 (AL L sz) := by
  refine Met.ofW (cc := cX7_walk) (maxL := 4) (ret := none) (by decide) rfl ?_
  intro p e s m args below meth c s₁ B hml hv
  obtain ⟨rfl, hsz, hP, hK, hD0, hN, -⟩ := hv
  have hx := B.exec
  have hb := B.bytes
  have hr := B.returns
  have hT : ∀ wd ∈ TB, wd.before [.ref o, .ref w, .int (nI hm)].toArray s = true := fun wd h => atoms_spec (ws := wT yX7_walk cX7_walk 4 none) B.pre wd (List.mem_cons_of_mem _ h)
  have hown : s.vm.findClass RX7 = some m.cls := findClass_of_methodNamed B.named
  have hlocks := B.notSynchronized
  subst hsz
  have hW : PW dC dI L (AL L s.heap.size) s.heap S s.heap [] := ⟨hP, pl_self hD0, va_S.rf⟩
  have hA0 : ∀ q, q ∈ L → AL L s.heap.size q := fun _ h => Or.inl h
  have hA : ∀ q, s.heap.size ≤ q → AL L s.heap.size q := fun _ h => Or.inr h
  have hFr : Fr kap [42] S S := Fr.rf
  have hl := lv_entry ([.ref o, .ref w, .int (nI hm)]) (n := 4) (Nat.le_of_ble_eq_true rfl)
  rw [lg_entry_eq]
  generalize (lg_sl ([.ref o, .ref w, .int (nI hm)]) ++ List.replicate (4 - (lg_sl ([.ref o, .ref w, .int (nI hm)])).length) Slot.unset).toArray = ls at hl ⊢
  have hl : lv_has ls 4 [(0, .ref o), (1, .ref w), (2, .int (nI hm))] := hl
  refine lv_aload_n hx hb dX7_walk_0 rfl (lv_at hl 0 rfl) ?_
  obtain ⟨x_1, x_2, x_3, x_4, x_5, x_6, hS_o, hT_x_1, hb_x_2, hT_x_5, hT_x_6⟩ := hTy.k7 hT_o
  refine pl_get (ci := 7) (v := .ref x_1) (C := RX7) (T := TX7) (N := 6) hx hb hT iX7 hown hK hW hT_o.1 hS_o rfl 0 (by decide) w216 rfl dX7_walk_1 ?_
  refine lv_iconst (v := 0) hx hb dX7_walk_4 (by decide) ?_
  refine lv_iload_n hx hb dX7_walk_5 rfl (lv_at hl 2 rfl) ?_
  obtain ⟨f_7, hS_x_1, hi_f_7⟩ := hTy.k42 hT_x_1
  refine pl_iast hx hb hK hW hT_x_1.1 hS_x_1 (vp_in_nI (n := 0) (N := 8) (by omega) (by omega)) dX7_walk_6 (fun H locs f_9 S_8 ef_f_9 e1 hW => ?_)
  have hi_f_9 := inv_up hi_f_7 ef_f_9 ⟨hm, by omega, rfl⟩
  have hTy := hTy.u42 e1 hT_x_1 ⟨f_9, rfl, hi_f_9⟩
  have hS_o := un e1 hT_o hT_x_1 (by decide) hS_o
  have hFr := uf hFr e1 hT_x_1 (by decide) (by decide)
  have hS_x_1 := us e1
  refine lv_iconst (v := 1) hx hb dX7_walk_7 (by decide) ?_
  refine lv_istore_n (lv' := [(3, .int 1), (0, .ref o), (1, .ref w), (2, .int (nI hm))]) hx hb dX7_walk_8 rfl hl (by decide) rfl (fun ls hl => ?_)
  have loop : ∀ (fuel : Nat) (i : Nat) (SS : Nat → va_E) (H : Heap) (locs : List Loc) (ls : Array Slot), 9 - i < fuel → (i ≤ 8) → (1 ≤ i) → Ty cy L kap pr SS → Fr kap [42] S SS → Fr kap [42] S_8 SS → PW dC dI L (AL L s.heap.size) s.heap SS H locs → lv_has ls 4 [(3, .int (nI i)), (0, .ref o), (1, .ref w), (2, .int (nI hm))] → W p l e (headSpec (wT yX7_walk cX7_walk 4 none) { frames := 3, cells := 0, slots := 0, locals := 68 }).room s m [.ref o, .ref w, .int (nI hm)].toArray below meth c H locs 0 0 (MQ below (va_Qv (fun S' => Ty cy L kap pr S' ∧ Fr kap [42] S S') (fun S' t => pB dC dI (AL L s.heap.size) (va_pl L S') (cyT cy) t) (AL L s.heap.size)) [.ref o, .ref w, .int (nI hm)].toArray s 0 0 (AL L s.heap.size)) (F0 m 9 ls []) := by
    intro fuel
    induction fuel with
    | zero => intro i SS H locs ls h; exact absurd h (Nat.not_lt_zero _)
    | succ fu9 ih9 =>
      intro i S_10 H locs ls hm9 hb_i hi1 hTy hFr hFl9 hW hl
      have hS_o := hFl9.at hT_o (by decide) hS_o
      refine lv_iload_n hx hb dX7_walk_9 rfl (lv_at hl 0 rfl) ?_
      refine lv_aload_n hx hb dX7_walk_10 rfl (lv_at hl 1 rfl) ?_
      refine pl_get (ci := 7) (v := .int (nI x_2)) (C := RX7) (T := TX7) (N := 6) hx hb hT iX7 hown hK hW hT_o.1 hS_o rfl 1 (by decide) w218 rfl dX7_walk_11 ?_
      refine lv_icmp_ge (tgt := 49) hx hb dX7_walk_14 (by decide) (fun c_14 => ?_) (fun c_14 => ?_)
      · have c_14 : x_2 ≤ i := (nI_leI (a := x_2) (b := i) (by omega) (by omega)).mp c_14
        exact W.vret hx hb hr (fun t ht h9 => ⟨⟨S_10, rfl, ⟨hTy, hFr⟩, by rw [ht]; exact hW.1, va_K.moved h9.alike hK, hW.2.1⟩, hW.2.2.F ht⟩) hW.2.2.2.2 dX7_walk_49
      · have c_14 : ¬ (x_2 ≤ i) := fun hh9 => c_14 ((nI_leI (a := x_2) (b := i) (by omega) (by omega)).mpr hh9)
        refine lv_aload_n hx hb dX7_walk_17 rfl (lv_at hl 1 rfl) ?_
        refine pl_get (ci := 7) (v := .ref x_1) (C := RX7) (T := TX7) (N := 6) hx hb hT iX7 hown hK hW hT_o.1 hS_o rfl 0 (by decide) w216 rfl dX7_walk_18 ?_
        refine lv_iload_n hx hb dX7_walk_21 rfl (lv_at hl 0 rfl) ?_
        refine lv_aload_n hx hb dX7_walk_22 rfl (lv_at hl 1 rfl) ?_
        refine lv_aload_n hx hb dX7_walk_23 rfl (lv_at hl 2 rfl) ?_
        refine lv_aload_n hx hb dX7_walk_24 rfl (lv_at hl 1 rfl) ?_
        refine pl_get (ci := 7) (v := .ref x_1) (C := RX7) (T := TX7) (N := 6) hx hb hT iX7 hown hK hW hT_o.1 hS_o rfl 0 (by decide) w216 rfl dX7_walk_25 ?_
        refine lv_iload_n hx hb dX7_walk_28 rfl (lv_at hl 0 rfl) ?_
        refine lv_iconst (v := 1) hx hb dX7_walk_29 (by decide) ?_
        refine lv_isub hx hb dX7_walk_30 ?_
        refine lv_topi (fun z_11 ez_11 => ?_)
        obtain rfl : z_11 = nI (i - 1) := ez_11.trans (pk_sub (a := i) (b := 1) (by omega))
        obtain ⟨f_12, hS_x_1, hi_f_12⟩ := hTy.k42 hT_x_1
        refine pl_iald hx hb hK hW hT_x_1.1 hS_x_1 (vp_in_nI (n := i - 1) (N := 8) (by omega) (by omega)) dX7_walk_31 ?_
        refine lv_topi (fun y_13 ey_13 => ?_)
        obtain ⟨k_14, hb_k_14, hq_k_14⟩ := hi_f_12 (i - 1) (by omega)
        obtain rfl : y_13 = nI k_14 := ey_13.trans (by show f_12 (nI (i - 1)).toNatClampNeg = _; rw [nI_clamp (by omega)]; exact hq_k_14)
        refine lv_iload_n hx hb dX7_walk_32 rfl (lv_at hl 3 rfl) ?_
        refine lv_aload_n hx hb dX7_walk_33 rfl (lv_at hl 1 rfl) ?_
        refine pl_get (ci := 7) (v := .int (nI x_2)) (C := RX7) (T := TX7) (N := 6) hx hb hT iX7 hown hK hW hT_o.1 hS_o rfl 1 (by decide) w218 rfl dX7_walk_34 ?_
        refine lv_iload_n hx hb dX7_walk_37 rfl (lv_at hl 0 rfl) ?_
        refine lv_isub hx hb dX7_walk_38 ?_
        refine lv_topi (fun z_15 ez_15 => ?_)
        refine vp_callSi (va_Run.run (va_runV (As := [.ref w, .int (nI k_14), .int (nI hm), .int z_15]) (rest := [.int (nI i), .ref x_1]) ⟨hx, hb, hml, hown, hT⟩ (s_gnext l dC dI cy L kap pr S_10 H.size o w k_14 hm z_15 hTy hT_o hT_w (by omega) (by omega)) (cwV 4 hT (gV w702 w704 ws34 w9 w705) rfl rfl rfl (by decide +kernel) ⟨(Nat.le_of_ble_eq_true rfl), (Nat.le_of_ble_eq_true rfl)⟩) ⟨pcN.blind, pl_recv hK hW hT_o.1 hS_o rfl, pcN.pre hW.1 hK hW.2.1 hN (fun q h => absurd h List.not_mem_nil)⟩ rfl rfl hl.1 rfl (lv_room (Nat.le_of_ble_eq_true rfl)) dX7_walk_39 ⟨(Nat.le_of_ble_eq_true rfl), (Nat.le_of_ble_eq_true rfl)⟩)) (fun r_16 hr_16 => ?_)
        obtain ⟨k_17, hb_k_17, rfl⟩ := hr_16
        refine pl_iast hx hb hK hW hT_x_1.1 hS_x_1 (vp_in_nI (n := i) (N := 8) (by omega) (by omega)) dX7_walk_42 (fun H locs f_19 S_18 ef_f_19 e1 hW => ?_)
        have hi_f_19 := inv_up hi_f_12 ef_f_19 ⟨k_17, by omega, rfl⟩
        have hTy := hTy.u42 e1 hT_x_1 ⟨f_19, rfl, hi_f_19⟩
        have hS_o := un e1 hT_o hT_x_1 (by decide) hS_o
        have hFr := uf hFr e1 hT_x_1 (by decide) (by decide)
        have hFl9 := uf hFl9 e1 hT_x_1 (by decide) (by decide)
        have hS_x_1 := us e1
        refine lv_iinc (v := nI (i + 1)) (lv' := [(3, .int (nI (i + 1))), (0, .ref o), (1, .ref w), (2, .int (nI hm))]) hx hb dX7_walk_43 hl (k := 0) rfl (nI_add (i) 1) (by decide) rfl (fun ls hl => ?_)
        refine lv_goto (tgt := 9) hx hb dX7_walk_46 (by decide) ?_
        exact ih9 (i + 1) _ _ _ ls (by omega) (by omega) (by omega) hTy hFr hFl9 hW (lv_sub hl [0, 1, 2, 3] rfl)
  exact loop ((9 - 1) + 1) 1 _ _ _ ls (Nat.lt_succ_self _) (by omega) (by omega) hTy hFr Fr.rf hW (lv_sub hl [0, 1, 2, 3] rfl)

set_option maxHeartbeats 4000000 in
set_option maxRecDepth 100000 in
theorem s_lengthFrom (l : Launch) (dC : Nat → ClassId) (dI : Nat → Nat → Nat) (cy : Nat → ClassId) (L : List Nat) (kap : Nat → Nat) (pr : Pr) (S : Nat → va_E) (sz : Nat) (o : Nat) (w : Nat) (hm : Nat) (hTy : Ty cy L kap pr S) (hT_o : TK L kap o 7) (hT_w : TK L kap w 1) (hb_hm : hm < 8) : Met l yX7_lengthFrom (wT yX7_lengthFrom cX7_lengthFrom 5 (some .int)) ({ frames := 2, cells := 0, slots := 0, locals := 43 }) (pcN dC dI [.ref o, .ref w, .int (nI hm)] sz (va_pl L S) (cyT cy) NLs []) (vp_Si (fun r => r = -1 ∨ ∃ k, k < 9 ∧ r = nI k)) 0 0 (fun _ => False) := by
  refine Met.ofW (cc := cX7_lengthFrom) (maxL := 5) (ret := (some .int)) (by decide) rfl ?_
  intro p e s m args below meth c s₁ B hml hv
  obtain ⟨rfl, hsz, hP, hK, hD0, hN, -⟩ := hv
  have hx := B.exec
  have hb := B.bytes
  have hr := B.returns
  have hT : ∀ wd ∈ TB, wd.before [.ref o, .ref w, .int (nI hm)].toArray s = true := fun wd h => atoms_spec (ws := wT yX7_lengthFrom cX7_lengthFrom 5 (some .int)) B.pre wd (List.mem_cons_of_mem _ h)
  have hown : s.vm.findClass RX7 = some m.cls := findClass_of_methodNamed B.named
  have hlocks := B.notSynchronized
  subst hsz
  have hW : PW dC dI L (AL L s.heap.size) s.heap S s.heap [] := ⟨hP, pl_self hD0, va_S.rf⟩
  have hFr : Fr kap [] S S := Fr.rf
  have hl := lv_entry ([.ref o, .ref w, .int (nI hm)]) (n := 5) (Nat.le_of_ble_eq_true rfl)
  rw [lg_entry_eq]
  generalize (lg_sl ([.ref o, .ref w, .int (nI hm)]) ++ List.replicate (5 - (lg_sl ([.ref o, .ref w, .int (nI hm)])).length) Slot.unset).toArray = ls at hl ⊢
  have hl : lv_has ls 5 [(0, .ref o), (1, .ref w), (2, .int (nI hm))] := hl
  refine lv_iconst (v := (-1)) hx hb dX7_lengthFrom_0 (by decide) ?_
  refine lv_istore_n (lv' := [(3, .int (-1)), (0, .ref o), (1, .ref w), (2, .int (nI hm))]) hx hb dX7_lengthFrom_1 rfl hl (by decide) rfl (fun ls hl => ?_)
  refine lv_iload_n hx hb dX7_lengthFrom_2 rfl (lv_at hl 3 rfl) ?_
  refine lv_iconst (v := 1) hx hb dX7_lengthFrom_3 (by decide) ?_
  refine lv_iadd hx hb dX7_lengthFrom_4 ?_
  refine lv_topi (fun z_1 ez_1 => ?_)
  obtain rfl : z_1 = nI (hm + 1) := ez_1.trans (nI_add (hm) (1))
  refine lv_istore (lv' := [(4, .int (nI (hm + 1))), (3, .int (-1)), (0, .ref o), (1, .ref w), (2, .int (nI hm))]) hx hb dX7_lengthFrom_5 hl (by decide) rfl (fun ls hl => ?_)
  have loop : ∀ (fuel : Nat) (j : Nat) (ln : Int32) (ls : Array Slot), 9 - j < fuel → (j ≤ 8) → (ln = -1 ∨ ∃ k, k < 9 ∧ ln = nI k) → lv_has ls 5 [(4, .int (nI j)), (3, .int ln), (0, .ref o), (1, .ref w), (2, .int (nI hm))] → W p l e (headSpec (wT yX7_lengthFrom cX7_lengthFrom 5 (some .int)) { frames := 2, cells := 0, slots := 0, locals := 43 }).room s m [.ref o, .ref w, .int (nI hm)].toArray below meth c s.heap [] 0 0 (MQ below (vp_Si (fun r => r = -1 ∨ ∃ k, k < 9 ∧ r = nI k)) [.ref o, .ref w, .int (nI hm)].toArray s 0 0 (fun _ => False)) (F0 m 7 ls []) := by
    intro fuel
    induction fuel with
    | zero => intro j ln ls h; exact absurd h (Nat.not_lt_zero _)
    | succ fu7 ih7 =>
      intro j ln ls hm7 hb_j hln hl
      refine lv_iload hx hb dX7_lengthFrom_7 (lv_at hl 0 rfl) ?_
      refine lv_aload_n hx hb dX7_lengthFrom_9 rfl (lv_at hl 3 rfl) ?_
      obtain ⟨x_2, x_3, hS_w, hT_x_2, hb_x_3⟩ := hTy.k1 hT_w
      refine pl_get (ci := 1) (v := .int (nI x_3)) (C := RX1) (T := TX1) (N := 2) hx hb hT iX1 hown hK hW hT_w.1 hS_w rfl 1 (by decide) w201 rfl dX7_lengthFrom_10 ?_
      refine lv_icmp_ge (tgt := 71) hx hb dX7_lengthFrom_13 (by decide) (fun c_13 => ?_) (fun c_13 => ?_)
      · have c_13 : x_3 ≤ j := (nI_leI (a := x_3) (b := j) (by omega) (by omega)).mp c_13
        refine lv_iload_n hx hb dX7_lengthFrom_71 rfl (lv_at hl 1 rfl) ?_
        exact W.iret (v := ln) hx hb hr (fun t ht h9 => ⟨ln, rfl, hln, ht⟩) (fun q h => by cases h) dX7_lengthFrom_72
      · have c_13 : ¬ (x_3 ≤ j) := fun hh9 => c_13 ((nI_leI (a := x_3) (b := j) (by omega) (by omega)).mpr hh9)
        refine lv_aload_n hx hb dX7_lengthFrom_16 rfl (lv_at hl 2 rfl) ?_
        obtain ⟨x_4, x_5, x_6, x_7, x_8, x_9, hS_o, hT_x_4, hb_x_5, hT_x_8, hT_x_9⟩ := hTy.k7 hT_o
        refine pl_get (ci := 7) (v := .ref x_8) (C := RX7) (T := TX7) (N := 6) hx hb hT iX7 hown hK hW hT_o.1 hS_o rfl 4 (by decide) w224 rfl dX7_lengthFrom_17 ?_
        refine lv_iload hx hb dX7_lengthFrom_20 (lv_at hl 0 rfl) ?_
        obtain ⟨f_10, hS_x_8, hi_f_10⟩ := hTy.k32 hT_x_8
        refine pl_iald hx hb hK hW hT_x_8.1 hS_x_8 (vp_in_nI (n := j) (N := 8) (by omega) (by omega)) dX7_lengthFrom_22 ?_
        refine lv_topi (fun y_11 ey_11 => ?_)
        have hv_y_11 := hi_f_10 (j) (by omega)
        rw [show f_10 (j) = y_11 from (ey_11.trans (by show f_10 (nI (j)).toNatClampNeg = _; rw [nI_clamp (by omega)])).symm] at hv_y_11
        refine lv_iconst (v := (-1)) hx hb dX7_lengthFrom_23 (by decide) ?_
        refine lv_icmp_eq (tgt := 65) hx hb dX7_lengthFrom_24 (by decide) (fun c_24 => ?_) (fun c_24 => ?_)
        · refine lv_iinc (v := nI (j + 1)) (lv' := [(4, .int (nI (j + 1))), (3, .int ln), (0, .ref o), (1, .ref w), (2, .int (nI hm))]) hx hb dX7_lengthFrom_65 hl (k := 0) rfl (nI_add (j) 1) (by decide) rfl (fun ls hl => ?_)
          refine lv_goto (tgt := 7) hx hb dX7_lengthFrom_68 (by decide) ?_
          exact ih7 (j + 1) ln ls (by omega) (by omega) hln (lv_sub hl [0, 1, 2, 3, 4] rfl)
        · obtain ⟨k_12, hb_k_12, rfl⟩ := hv_y_11.resolve_left c_24
          refine lv_aload_n hx hb dX7_lengthFrom_27 rfl (lv_at hl 3 rfl) ?_
          refine lv_iload_n hx hb dX7_lengthFrom_28 rfl (lv_at hl 4 rfl) ?_
          refine lv_iload hx hb dX7_lengthFrom_29 (lv_at hl 0 rfl) ?_
          refine vp_callSi (va_Run.run (va_runV (As := [.int (nI hm), .int (nI j)]) (rest := []) ⟨hx, hb, hml, hown, hT⟩ (s_goes l dC dI cy L kap pr S s.heap.size w hm j hTy hT_w (by omega) (by omega)) (cwV 2 hT (gV w690 w691 w692 w8 w693) rfl rfl rfl (by decide +kernel) ⟨(Nat.le_of_ble_eq_true rfl), (Nat.le_of_ble_eq_true rfl)⟩) ⟨pcN.blind, pl_recv hK hW hT_w.1 hS_w rfl, pcN.pre hW.1 hK hW.2.1 hN (fun q h => absurd h List.not_mem_nil)⟩ rfl rfl hl.1 rfl (lv_room (Nat.le_of_ble_eq_true rfl)) dX7_lengthFrom_31 ⟨(Nat.le_of_ble_eq_true rfl), (Nat.le_of_ble_eq_true rfl)⟩)) (fun r_13 hr_13 => ?_)
          refine lv_if_eq (tgt := 65) hx hb dX7_lengthFrom_34 (by decide) (fun c_34 => ?_) (fun c_34 => ?_)
          · refine lv_iinc (v := nI (j + 1)) (lv' := [(4, .int (nI (j + 1))), (3, .int ln), (0, .ref o), (1, .ref w), (2, .int (nI hm))]) hx hb dX7_lengthFrom_65 hl (k := 0) rfl (nI_add (j) 1) (by decide) rfl (fun ls hl => ?_)
            refine lv_goto (tgt := 7) hx hb dX7_lengthFrom_68 (by decide) ?_
            exact ih7 (j + 1) ln ls (by omega) (by omega) hln (lv_sub hl [0, 1, 2, 3, 4] rfl)
          · refine lv_iload_n hx hb dX7_lengthFrom_37 rfl (lv_at hl 1 rfl) ?_
            refine lv_iconst (v := (-1)) hx hb dX7_lengthFrom_38 (by decide) ?_
            refine lv_icmp_eq (tgt := 55) hx hb dX7_lengthFrom_39 (by decide) (fun c_39 => ?_) (fun c_39 => ?_)
            · refine lv_aload_n hx hb dX7_lengthFrom_55 rfl (lv_at hl 2 rfl) ?_
              refine pl_get (ci := 7) (v := .ref x_8) (C := RX7) (T := TX7) (N := 6) hx hb hT iX7 hown hK hW hT_o.1 hS_o rfl 4 (by decide) w224 rfl dX7_lengthFrom_56 ?_
              refine lv_iload hx hb dX7_lengthFrom_59 (lv_at hl 0 rfl) ?_
              refine pl_iald hx hb hK hW hT_x_8.1 hS_x_8 (vp_in_nI (n := j) (N := 8) (by omega) (by omega)) dX7_lengthFrom_61 ?_
              refine lv_topi (fun y_14 ey_14 => ?_)
              obtain rfl : y_14 = nI k_12 := ey_14.trans ey_11.symm
              refine lv_iconst (v := 1) hx hb dX7_lengthFrom_62 (by decide) ?_
              refine lv_iadd hx hb dX7_lengthFrom_63 ?_
              refine lv_topi (fun z_15 ez_15 => ?_)
              obtain rfl : z_15 = nI (k_12 + 1) := ez_15.trans (nI_add (k_12) (1))
              refine lv_istore_n (lv' := [(3, .int (nI (k_12 + 1))), (4, .int (nI j)), (0, .ref o), (1, .ref w), (2, .int (nI hm))]) hx hb dX7_lengthFrom_64 rfl hl (by decide) rfl (fun ls hl => ?_)
              refine lv_iinc (v := nI (j + 1)) (lv' := [(4, .int (nI (j + 1))), (3, .int (nI (k_12 + 1))), (0, .ref o), (1, .ref w), (2, .int (nI hm))]) hx hb dX7_lengthFrom_65 hl (k := 1) rfl (nI_add (j) 1) (by decide) rfl (fun ls hl => ?_)
              refine lv_goto (tgt := 7) hx hb dX7_lengthFrom_68 (by decide) ?_
              exact ih7 (j + 1) (nI (k_12 + 1)) ls (by omega) (by omega) (Or.inr ⟨k_12 + 1, by omega, rfl⟩) (lv_sub hl [0, 1, 2, 3, 4] rfl)
            · refine lv_aload_n hx hb dX7_lengthFrom_42 rfl (lv_at hl 2 rfl) ?_
              refine pl_get (ci := 7) (v := .ref x_8) (C := RX7) (T := TX7) (N := 6) hx hb hT iX7 hown hK hW hT_o.1 hS_o rfl 4 (by decide) w224 rfl dX7_lengthFrom_43 ?_
              refine lv_iload hx hb dX7_lengthFrom_46 (lv_at hl 0 rfl) ?_
              refine pl_iald hx hb hK hW hT_x_8.1 hS_x_8 (vp_in_nI (n := j) (N := 8) (by omega) (by omega)) dX7_lengthFrom_48 ?_
              refine lv_topi (fun y_16 ey_16 => ?_)
              obtain rfl : y_16 = nI k_12 := ey_16.trans ey_11.symm
              refine lv_iconst (v := 1) hx hb dX7_lengthFrom_49 (by decide) ?_
              refine lv_iadd hx hb dX7_lengthFrom_50 ?_
              refine lv_topi (fun z_17 ez_17 => ?_)
              obtain rfl : z_17 = nI (k_12 + 1) := ez_17.trans (nI_add (k_12) (1))
              refine lv_iload_n hx hb dX7_lengthFrom_51 rfl (lv_at hl 1 rfl) ?_
              refine lv_icmp_ge (tgt := 65) hx hb dX7_lengthFrom_52 (by decide) (fun c_52 => ?_) (fun c_52 => ?_)
              · refine lv_iinc (v := nI (j + 1)) (lv' := [(4, .int (nI (j + 1))), (3, .int ln), (0, .ref o), (1, .ref w), (2, .int (nI hm))]) hx hb dX7_lengthFrom_65 hl (k := 0) rfl (nI_add (j) 1) (by decide) rfl (fun ls hl => ?_)
                refine lv_goto (tgt := 7) hx hb dX7_lengthFrom_68 (by decide) ?_
                exact ih7 (j + 1) ln ls (by omega) (by omega) hln (lv_sub hl [0, 1, 2, 3, 4] rfl)
              · refine lv_aload_n hx hb dX7_lengthFrom_55 rfl (lv_at hl 2 rfl) ?_
                refine pl_get (ci := 7) (v := .ref x_8) (C := RX7) (T := TX7) (N := 6) hx hb hT iX7 hown hK hW hT_o.1 hS_o rfl 4 (by decide) w224 rfl dX7_lengthFrom_56 ?_
                refine lv_iload hx hb dX7_lengthFrom_59 (lv_at hl 0 rfl) ?_
                refine pl_iald hx hb hK hW hT_x_8.1 hS_x_8 (vp_in_nI (n := j) (N := 8) (by omega) (by omega)) dX7_lengthFrom_61 ?_
                refine lv_topi (fun y_18 ey_18 => ?_)
                obtain rfl : y_18 = nI k_12 := ey_18.trans ey_11.symm
                refine lv_iconst (v := 1) hx hb dX7_lengthFrom_62 (by decide) ?_
                refine lv_iadd hx hb dX7_lengthFrom_63 ?_
                refine lv_topi (fun z_19 ez_19 => ?_)
                obtain rfl : z_19 = nI (k_12 + 1) := ez_19.trans (nI_add (k_12) (1))
                refine lv_istore_n (lv' := [(3, .int (nI (k_12 + 1))), (4, .int (nI j)), (0, .ref o), (1, .ref w), (2, .int (nI hm))]) hx hb dX7_lengthFrom_64 rfl hl (by decide) rfl (fun ls hl => ?_)
                refine lv_iinc (v := nI (j + 1)) (lv' := [(4, .int (nI (j + 1))), (3, .int (nI (k_12 + 1))), (0, .ref o), (1, .ref w), (2, .int (nI hm))]) hx hb dX7_lengthFrom_65 hl (k := 1) rfl (nI_add (j) 1) (by decide) rfl (fun ls hl => ?_)
                refine lv_goto (tgt := 7) hx hb dX7_lengthFrom_68 (by decide) ?_
                exact ih7 (j + 1) (nI (k_12 + 1)) ls (by omega) (by omega) (Or.inr ⟨k_12 + 1, by omega, rfl⟩) (lv_sub hl [0, 1, 2, 3, 4] rfl)
  exact loop ((9 - (hm + 1)) + 1) (hm + 1) (-1) ls (Nat.lt_succ_self _) (by omega) (Or.inl rfl) (lv_sub hl [0, 1, 2, 3, 4] rfl)
