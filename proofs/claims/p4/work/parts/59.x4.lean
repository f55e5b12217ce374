set_option maxHeartbeats 4000000 in
set_option maxRecDepth 100000 in
theorem q_appendParty (l : Launch) (dC : Nat → ClassId) (dI : Nat → Nat → Nat) (cy : Nat → ClassId) (L : List Nat) (kap : Nat → Nat) (pr : Pr) (S : Nat → va_E) (sz : Nat) (o : Nat) (x : Nat) (a : Nat) (n : Nat) (hTy : Ty cy L kap pr S) (hT_o : TK L kap o 3) (hT_x : TK L kap x 27) (hb_a : a ≤ 900) (hb_n : a + n ≤ 900) (g : Nat → Int32) (df : Nat → Nat × Nat) (np : Nat) (nk : Nat) (hxE : af (S x) = g) (hg : BR g) (hNq : NQ S g df o np nk) (hlt : np < 8) (hnok : NOK g a n) : Met l yX3_appendParty (wT yX3_appendParty cX3_appendParty 4 none) ({ frames := 2, cells := 0, slots := 0, locals := 65 }) (pcN dC dI [.ref o, .ref x, .int (nI a), .int (nI n)] sz (va_pl L S) (cyT cy) NLs []) (va_Qv (fun S' => Ty cy L kap pr S' ∧ Fr kap [3, 25, 26] S S' ∧ (NQ S' g (ud df np (a, n)) o (np + 1) nk)) (fun S' t => pB dC dI (AL L sz) (va_pl L S') (cyT cy) t) (AL L sz)) 0 0 (AL L sz) := by
  refine Met.ofW (cc := cX3_appendParty) (maxL := 4) (ret := none) (by decide) rfl ?_
  intro p e s m args below meth c s₁ B hml hv
  obtain ⟨rfl, hsz, hP, hK, hD0, hN, -⟩ := hv
  have hx := B.exec
  have hb := B.bytes
  have hr := B.returns
  have hT : ∀ wd ∈ TB, wd.before [.ref o, .ref x, .int (nI a), .int (nI n)].toArray s = true := fun wd h => atoms_spec (ws := wT yX3_appendParty cX3_appendParty 4 none) B.pre wd (List.mem_cons_of_mem _ h)
  have hown : s.vm.findClass RX3 = some m.cls := findClass_of_methodNamed B.named
  have hlocks := B.notSynchronized
  subst hsz
  have hW : PW dC dI L (AL L s.heap.size) s.heap S s.heap [] := ⟨hP, pl_self hD0, va_S.rf⟩
  have hA0 : ∀ q, q ∈ L → AL L s.heap.size q := fun _ h => Or.inl h
  have hA : ∀ q, s.heap.size ≤ q → AL L s.heap.size q := fun _ h => Or.inr h
  have hFr : Fr kap [3, 25, 26] S S := Fr.rf
  have hl := lv_entry ([.ref o, .ref x, .int (nI a), .int (nI n)]) (n := 4) (Nat.le_of_ble_eq_true rfl)
  rw [lg_entry_eq]
  generalize (lg_sl ([.ref o, .ref x, .int (nI a), .int (nI n)]) ++ List.replicate (4 - (lg_sl ([.ref o, .ref x, .int (nI a), .int (nI n)])).length) Slot.unset).toArray = ls at hl ⊢
  have hl : lv_has ls 4 [(0, .ref o), (1, .ref x), (2, .int (nI a)), (3, .int (nI n))] := hl
  obtain ⟨x_1, x_2, x_3, x_4, hS_o, hT_x_1, hT_x_2, hb_x_3, hb_x_4⟩ := hTy.k3 hT_o
  obtain ⟨f_5, hS_x⟩ := hTy.k27 hT_x
  obtain ⟨hn2_, hn3_, hnp_, hnk_, hN0, hN8⟩ := hNq
  obtain rfl : np = x_3 := (nI_eq (by omega) (by omega)).mp (hn2_.symm.trans (inf_i hS_o rfl))
  obtain rfl : nk = x_4 := (nI_eq (by omega) (by omega)).mp (hn3_.symm.trans (inf_i hS_o rfl))
  refine lv_aload_n hx hb dX3_appendParty_0 rfl (lv_at hl 0 rfl) ?_
  refine pl_get (ci := 3) (v := .int (nI np)) (C := RX3) (T := TX3) (N := 4) hx hb hT iX3 hown hK hW hT_o.1 hS_o rfl 2 (by decide) w62 rfl dX3_appendParty_1 ?_
  refine lv_bipush (v := 8) hx hb dX3_appendParty_4 (by decide) ?_
  refine lv_icmp_ge (tgt := 30) hx hb dX3_appendParty_6 (by decide) (fun c_6 => ?_) (fun c_6 => ?_)
  · have c_6 : 8 ≤ np := (nI_leI (a := 8) (b := np) (by omega) (by omega)).mp c_6
    exfalso; omega
  · have c_6 : ¬ (8 ≤ np) := fun hh9 => c_6 ((nI_leI (a := 8) (b := np) (by omega) (by omega)).mpr hh9)
    refine lv_aload_n hx hb dX3_appendParty_9 rfl (lv_at hl 0 rfl) ?_
    refine lv_aload_n hx hb dX3_appendParty_10 rfl (lv_at hl 0 rfl) ?_
    refine pl_get (ci := 3) (v := .int (nI np)) (C := RX3) (T := TX3) (N := 4) hx hb hT iX3 hown hK hW hT_o.1 hS_o rfl 2 (by decide) w62 rfl dX3_appendParty_11 ?_
    refine lv_aload_n hx hb dX3_appendParty_14 rfl (lv_at hl 1 rfl) ?_
    refine lv_iload_n hx hb dX3_appendParty_15 rfl (lv_at hl 2 rfl) ?_
    refine lv_iload_n hx hb dX3_appendParty_16 rfl (lv_at hl 3 rfl) ?_
    refine pl_callv (va_runV (As := [.int (nI np), .ref x, .int (nI a), .int (nI n)]) (rest := []) ⟨hx, hb, hml, hown, hT⟩ (q_nput l dC dI cy L kap pr S s.heap.size o np x a n hTy hT_o (by omega) hT_x (by omega) (by omega) (by rw [hxE]; exact hg) hnok.2.1) (cwV 4 hT (gV w528 w530 ws10 w4 w531) rfl rfl rfl (by decide +kernel) ⟨(Nat.le_of_ble_eq_true rfl), (Nat.le_of_ble_eq_true rfl)⟩) ⟨pcN.blind, pl_recv hK hW hT_o.1 hS_o rfl, pcN.pre hW.1 hK hW.2.1 hN (fun q h => absurd h List.not_mem_nil)⟩ rfl rfl hl.1 rfl (lv_room (Nat.le_of_ble_eq_true rfl)) dX3_appendParty_17 ⟨(Nat.le_of_ble_eq_true rfl), (Nat.le_of_ble_eq_true rfl)⟩) hW hA0 hA (fun S_6 H locs hrel hW => ?_)
    obtain ⟨hTy, hF1, hx1⟩ := hrel
    have hFr := hFr.tr hF1 (by decide)
    have hS_o := hF1.at hT_o (by decide) hS_o
    have hS_x := hF1.at hT_x (by decide) hS_x
    obtain ⟨x_7, x_8, x_9, x_10, hS_o, hT_x_7, hT_x_8, hb_x_9, hb_x_10⟩ := hTy.k3 hT_o
    obtain ⟨f_11, hS_x_7⟩ := hTy.k25 hT_x_7
    obtain ⟨f_12, hS_x_8, hi_f_12⟩ := hTy.k26 hT_x_8
    obtain ⟨hP, hi2_, hi3_⟩ := hx1
    obtain rfl : np = x_9 := (nI_eq (by omega) (by omega)).mp (hn2_.symm.trans (hi2_.symm.trans (inf_i hS_o rfl)))
    obtain rfl : nk = x_10 := (nI_eq (by omega) (by omega)).mp (hn3_.symm.trans (hi3_.symm.trans (inf_i hS_o rfl)))
    rw [hxE, fld_i hS_o rfl hS_x_7, fld_i hS_o rfl hS_x_8] at hP
    refine lv_aload_n hx hb dX3_appendParty_20 rfl (lv_at hl 0 rfl) ?_
    refine lv_dup hx hb dX3_appendParty_21 rfl ?_
    refine pl_get (ci := 3) (v := .int (nI np)) (C := RX3) (T := TX3) (N := 4) hx hb hT iX3 hown hK hW hT_o.1 hS_o rfl 2 (by decide) w62 rfl dX3_appendParty_22 ?_
    refine lv_iconst (v := 1) hx hb dX3_appendParty_25 (by decide) ?_
    refine lv_iadd hx hb dX3_appendParty_26 ?_
    refine lv_topi (fun z_13 ez_13 => ?_)
    obtain rfl : z_13 = nI (np + 1) := ez_13.trans (nI_add (np) (1))
    refine pl_put (ci := 3) (v := .int (nI (np + 1))) (ty := .int) (C := RX3) (T := TX3) (N := 4) (fs' := [.ref x_7, .ref x_8, .int (nI (np + 1)), .int (nI nk)]) hx hb hT iX3 tyX3 tyX3_ok nmX3 hown hK hW hT_o.1 hS_o rfl 2 (by decide) w62 rfl (by decide +kernel) rfl rfl (Nat.le_of_ble_eq_true rfl) rfl dX3_appendParty_27 (fun H locs S_14 e1 hW => ?_)
    have hTy := hTy.u3 e1 hT_o ⟨x_7, x_8, np + 1, nk, rfl, hT_x_7, hT_x_8, (by omega), (by omega)⟩
    have hS_x := un e1 hT_x hT_o (by decide) hS_x
    have hS_x_7 := un e1 hT_x_7 hT_o (by decide) hS_x_7
    have hS_x_8 := un e1 hT_x_8 hT_o (by decide) hS_x_8
    have hFr := uf hFr e1 hT_o (by decide) (by decide)
    have hS_o := us e1
    exact W.vret hx hb hr (fun t ht h9 => ⟨⟨S_14, rfl, ⟨hTy, hFr, ⟨inf_i hS_o rfl, inf_i hS_o rfl, by omega, by omega, by rw [fld_i hS_o rfl hS_x_7, fld_i hS_o rfl hS_x_8]; exact PUT_0 hN0 hP hnok, by rw [fld_i hS_o rfl hS_x_7, fld_i hS_o rfl hS_x_8]; exact PUT_08 hN8 hP (by omega)⟩⟩, by rw [ht]; exact hW.1, va_K.moved h9.alike hK, hW.2.1⟩, hW.2.2.F ht⟩) hW.2.2.2.2 dX3_appendParty_30

set_option maxHeartbeats 4000000 in
set_option maxRecDepth 100000 in
theorem q_appendKind (l : Launch) (dC : Nat → ClassId) (dI : Nat → Nat → Nat) (cy : Nat → ClassId) (L : List Nat) (kap : Nat → Nat) (pr : Pr) (S : Nat → va_E) (sz : Nat) (o : Nat) (x : Nat) (a : Nat) (n : Nat) (hTy : Ty cy L kap pr S) (hT_o : TK L kap o 3) (hT_x : TK L kap x 27) (hb_a : a ≤ 900) (hb_n : a + n ≤ 900) (g : Nat → Int32) (df : Nat → Nat × Nat) (np : Nat) (nk : Nat) (hxE : af (S x) = g) (hg : BR g) (hNq : NQ S g df o np nk) (hlt : nk < 4) (hnok : NOK g a n) : Met l yX3_appendKind (wT yX3_appendKind cX3_appendKind 4 none) ({ frames := 2, cells := 0, slots := 0, locals := 65 }) (pcN dC dI [.ref o, .ref x, .int (nI a), .int (nI n)] sz (va_pl L S) (cyT cy) NLs []) (va_Qv (fun S' => Ty cy L kap pr S' ∧ Fr kap [3, 25, 26] S S' ∧ (NQ S' g (ud df (8 + nk) (a, n)) o np (nk + 1))) (fun S' t => pB dC dI (AL L sz) (va_pl L S') (cyT cy) t) (AL L sz)) 0 0 (AL L sz) := by
  refine Met.ofW (cc := cX3_appendKind) (maxL := 4) (ret := none) (by decide) rfl ?_
  intro p e s m args below meth c s₁ B hml hv
  obtain ⟨rfl, hsz, hP, hK, hD0, hN, -⟩ := hv
  have hx := B.exec
  have hb := B.bytes
  have hr := B.returns
  have hT : ∀ wd ∈ TB, wd.before [.ref o, .ref x, .int (nI a), .int (nI n)].toArray s = true := fun wd h => atoms_spec (ws := wT yX3_appendKind cX3_appendKind 4 none) B.pre wd (List.mem_cons_of_mem _ h)
  have hown : s.vm.findClass RX3 = some m.cls := findClass_of_methodNamed B.named
  have hlocks := B.notSynchronized
  subst hsz
  have hW : PW dC dI L (AL L s.heap.size) s.heap S s.heap [] := ⟨hP, pl_self hD0, va_S.rf⟩
  have hA0 : ∀ q, q ∈ L → AL L s.heap.size q := fun _ h => Or.inl h
  have hA : ∀ q, s.heap.size ≤ q → AL L s.heap.size q := fun _ h => Or.inr h
  have hFr : Fr kap [3, 25, 26] S S := Fr.rf
  have hl := lv_entry ([.ref o, .ref x, .int (nI a), .int (nI n)]) (n := 4) (Nat.le_of_ble_eq_true rfl)
  rw [lg_entry_eq]
  generalize (lg_sl ([.ref o, .ref x, .int (nI a), .int (nI n)]) ++ List.replicate (4 - (lg_sl ([.ref o, .ref x, .int (nI a), .int (nI n)])).length) Slot.unset).toArray = ls at hl ⊢
  have hl : lv_has ls 4 [(0, .ref o), (1, .ref x), (2, .int (nI a)), (3, .int (nI n))] := hl
  obtain ⟨x_1, x_2, x_3, x_4, hS_o, hT_x_1, hT_x_2, hb_x_3, hb_x_4⟩ := hTy.k3 hT_o
  obtain ⟨f_5, hS_x⟩ := hTy.k27 hT_x
  obtain ⟨hn2_, hn3_, hnp_, hnk_, hN0, hN8⟩ := hNq
  obtain rfl : np = x_3 := (nI_eq (by omega) (by omega)).mp (hn2_.symm.trans (inf_i hS_o rfl))
  obtain rfl : nk = x_4 := (nI_eq (by omega) (by omega)).mp (hn3_.symm.trans (inf_i hS_o rfl))
  refine lv_aload_n hx hb dX3_appendKind_0 rfl (lv_at hl 0 rfl) ?_
  refine pl_get (ci := 3) (v := .int (nI nk)) (C := RX3) (T := TX3) (N := 4) hx hb hT iX3 hown hK hW hT_o.1 hS_o rfl 3 (by decide) w65 rfl dX3_appendKind_1 ?_
  refine lv_iconst (v := 4) hx hb dX3_appendKind_4 (by decide) ?_
  refine lv_icmp_ge (tgt := 32) hx hb dX3_appendKind_5 (by decide) (fun c_5 => ?_) (fun c_5 => ?_)
  · have c_5 : 4 ≤ nk := (nI_leI (a := 4) (b := nk) (by omega) (by omega)).mp c_5
    exfalso; omega
  · have c_5 : ¬ (4 ≤ nk) := fun hh9 => c_5 ((nI_leI (a := 4) (b := nk) (by omega) (by omega)).mpr hh9)
    refine lv_aload_n hx hb dX3_appendKind_8 rfl (lv_at hl 0 rfl) ?_
    refine lv_bipush (v := 8) hx hb dX3_appendKind_9 (by decide) ?_
    refine lv_aload_n hx hb dX3_appendKind_11 rfl (lv_at hl 0 rfl) ?_
    refine pl_get (ci := 3) (v := .int (nI nk)) (C := RX3) (T := TX3) (N := 4) hx hb hT iX3 hown hK hW hT_o.1 hS_o rfl 3 (by decide) w65 rfl dX3_appendKind_12 ?_
    refine lv_iadd hx hb dX3_appendKind_15 ?_
    refine lv_topi (fun z_6 ez_6 => ?_)
    obtain rfl : z_6 = nI (8 + nk) := ez_6.trans (nI_add (8) (nk))
    refine lv_aload_n hx hb dX3_appendKind_16 rfl (lv_at hl 1 rfl) ?_
    refine lv_iload_n hx hb dX3_appendKind_17 rfl (lv_at hl 2 rfl) ?_
    refine lv_iload_n hx hb dX3_appendKind_18 rfl (lv_at hl 3 rfl) ?_
    refine pl_callv (va_runV (As := [.int (nI (8 + nk)), .ref x, .int (nI a), .int (nI n)]) (rest := []) ⟨hx, hb, hml, hown, hT⟩ (q_nput l dC dI cy L kap pr S s.heap.size o (8 + nk) x a n hTy hT_o (by omega) hT_x (by omega) (by omega) (by rw [hxE]; exact hg) hnok.2.1) (cwV 4 hT (gV w528 w530 ws10 w4 w531) rfl rfl rfl (by decide +kernel) ⟨(Nat.le_of_ble_eq_true rfl), (Nat.le_of_ble_eq_true rfl)⟩) ⟨pcN.blind, pl_recv hK hW hT_o.1 hS_o rfl, pcN.pre hW.1 hK hW.2.1 hN (fun q h => absurd h List.not_mem_nil)⟩ rfl rfl hl.1 rfl (lv_room (Nat.le_of_ble_eq_true rfl)) dX3_appendKind_19 ⟨(Nat.le_of_ble_eq_true rfl), (Nat.le_of_ble_eq_true rfl)⟩) hW hA0 hA (fun S_7 H locs hrel hW => ?_)
    obtain ⟨hTy, hF1, hx1⟩ := hrel
    have hFr := hFr.tr hF1 (by decide)
    have hS_o := hF1.at hT_o (by decide) hS_o
    have hS_x := hF1.at hT_x (by decide) hS_x
    obtain ⟨x_8, x_9, x_10, x_11, hS_o, hT_x_8, hT_x_9, hb_x_10, hb_x_11⟩ := hTy.k3 hT_o
    obtain ⟨f_12, hS_x_8⟩ := hTy.k25 hT_x_8
    obtain ⟨f_13, hS_x_9, hi_f_13⟩ := hTy.k26 hT_x_9
    obtain ⟨hP, hi2_, hi3_⟩ := hx1
    obtain rfl : np = x_10 := (nI_eq (by omega) (by omega)).mp (hn2_.symm.trans (hi2_.symm.trans (inf_i hS_o rfl)))
    obtain rfl : nk = x_11 := (nI_eq (by omega) (by omega)).mp (hn3_.symm.trans (hi3_.symm.trans (inf_i hS_o rfl)))
    rw [hxE, fld_i hS_o rfl hS_x_8, fld_i hS_o rfl hS_x_9] at hP
    refine lv_aload_n hx hb dX3_appendKind_22 rfl (lv_at hl 0 rfl) ?_
    refine lv_dup hx hb dX3_appendKind_23 rfl ?_
    refine pl_get (ci := 3) (v := .int (nI nk)) (C := RX3) (T := TX3) (N := 4) hx hb hT iX3 hown hK hW hT_o.1 hS_o rfl 3 (by decide) w65 rfl dX3_appendKind_24 ?_
    refine lv_iconst (v := 1) hx hb dX3_appendKind_27 (by decide) ?_
    refine lv_iadd hx hb dX3_appendKind_28 ?_
    refine lv_topi (fun z_14 ez_14 => ?_)
    obtain rfl : z_14 = nI (nk + 1) := ez_14.trans (nI_add (nk) (1))
    refine pl_put (ci := 3) (v := .int (nI (nk + 1))) (ty := .int) (C := RX3) (T := TX3) (N := 4) (fs' := [.ref x_8, .ref x_9, .int (nI np), .int (nI (nk + 1))]) hx hb hT iX3 tyX3 tyX3_ok nmX3 hown hK hW hT_o.1 hS_o rfl 3 (by decide) w65 rfl (by decide +kernel) rfl rfl (Nat.le_of_ble_eq_true rfl) rfl dX3_appendKind_29 (fun H locs S_15 e1 hW => ?_)
    have hTy := hTy.u3 e1 hT_o ⟨x_8, x_9, np, nk + 1, rfl, hT_x_8, hT_x_9, (by omega), (by omega)⟩
    have hS_x := un e1 hT_x hT_o (by decide) hS_x
    have hS_x_8 := un e1 hT_x_8 hT_o (by decide) hS_x_8
    have hS_x_9 := un e1 hT_x_9 hT_o (by decide) hS_x_9
    have hFr := uf hFr e1 hT_o (by decide) (by decide)
    have hS_o := us e1
    exact W.vret hx hb hr (fun t ht h9 => ⟨⟨S_15, rfl, ⟨hTy, hFr, ⟨inf_i hS_o rfl, inf_i hS_o rfl, by omega, by omega, by rw [fld_i hS_o rfl hS_x_8, fld_i hS_o rfl hS_x_9]; exact PUT_80 hN0 hP (by omega), by rw [fld_i hS_o rfl hS_x_8, fld_i hS_o rfl hS_x_9]; exact PUT_8 hN8 hP hnok⟩⟩, by rw [ht]; exact hW.1, va_K.moved h9.alike hK, hW.2.1⟩, hW.2.2.F ht⟩) hW.2.2.2.2 dX3_appendKind_32

