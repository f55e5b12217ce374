set_option maxHeartbeats 4000000 in
set_option maxRecDepth 100000 in
theorem s_in (l : Launch) (dC : Nat → ClassId) (dI : Nat → Nat → Nat) (sz : Nat) (a : Nat) (hb_a : a < 8) : Met l yX9_in (wT yX9_in cX9_in 1 (some .int)) ({ frames := 0, cells := 0, slots := 0, locals := 0 }) (pcW dC dI [.int (nI a)] sz [] []) (vp_Si (fun r => r = nI (2 * a))) 0 0 (fun _ => False) := by
  refine Met.ofW (cc := cX9_in) (maxL := 1) (ret := (some .int)) (by decide) rfl ?_
  intro p e s m args below meth c s₁ B hml hv
  obtain ⟨rfl, hsz, hP, hK, hD0⟩ := hv
  have hx := B.exec
  have hb := B.bytes
  have hr := B.returns
  have hT : ∀ wd ∈ TB, wd.before [.int (nI a)].toArray s = true := fun wd h => atoms_spec (ws := wT yX9_in cX9_in 1 (some .int)) B.pre wd (List.mem_cons_of_mem _ h)
  have hown : s.vm.findClass RX9 = some m.cls := findClass_of_methodNamed B.named
  have hlocks := B.notSynchronized
  subst hsz
  have hl := lv_entry ([.int (nI a)]) (n := 1) (Nat.le_of_ble_eq_true rfl)
  rw [lg_entry_eq]
  generalize (lg_sl ([.int (nI a)]) ++ List.replicate (1 - (lg_sl ([.int (nI a)])).length) Slot.unset).toArray = ls at hl ⊢
  have hl : lv_has ls 1 [(0, .int (nI a))] := hl
  refine lv_iconst (v := 2) hx hb dX9_in_0 (by decide) ?_
  refine lv_iload_n hx hb dX9_in_1 rfl (lv_at hl 0 rfl) ?_
  refine lv_imul hx hb dX9_in_2 ?_
  refine lv_topi (fun z_1 ez_1 => ?_)
  obtain rfl : z_1 = nI (2 * a) := ez_1.trans (pk_mul (2) (a))
  exact W.iret (v := nI (2 * a)) hx hb hr (fun t ht h9 => ⟨nI (2 * a), rfl, rfl, ht⟩) (fun q h => by cases h) dX9_in_3

set_option maxHeartbeats 4000000 in
set_option maxRecDepth 100000 in
theorem s_out (l : Launch) (dC : Nat → ClassId) (dI : Nat → Nat → Nat) (sz : Nat) (a : Nat) (hb_a : a < 8) : Met l yX9_out (wT yX9_out cX9_out 1 (some .int)) ({ frames := 0, cells := 0, slots := 0, locals := 0 }) (pcW dC dI [.int (nI a)] sz [] []) (vp_Si (fun r => r = nI (2 * a + 1))) 0 0 (fun _ => False) := by
  refine Met.ofW (cc := cX9_out) (maxL := 1) (ret := (some .int)) (by decide) rfl ?_
  intro p e s m args below meth c s₁ B hml hv
  obtain ⟨rfl, hsz, hP, hK, hD0⟩ := hv
  have hx := B.exec
  have hb := B.bytes
  have hr := B.returns
  have hT : ∀ wd ∈ TB, wd.before [.int (nI a)].toArray s = true := fun wd h => atoms_spec (ws := wT yX9_out cX9_out 1 (some .int)) B.pre wd (List.mem_cons_of_mem _ h)
  have hown : s.vm.findClass RX9 = some m.cls := findClass_of_methodNamed B.named
  have hlocks := B.notSynchronized
  subst hsz
  have hl := lv_entry ([.int (nI a)]) (n := 1) (Nat.le_of_ble_eq_true rfl)
  rw [lg_entry_eq]
  generalize (lg_sl ([.int (nI a)]) ++ List.replicate (1 - (lg_sl ([.int (nI a)])).length) Slot.unset).toArray = ls at hl ⊢
  have hl : lv_has ls 1 [(0, .int (nI a))] := hl
  refine lv_iconst (v := 2) hx hb dX9_out_0 (by decide) ?_
  refine lv_iload_n hx hb dX9_out_1 rfl (lv_at hl 0 rfl) ?_
  refine lv_imul hx hb dX9_out_2 ?_
  refine lv_topi (fun z_1 ez_1 => ?_)
  obtain rfl : z_1 = nI (2 * a) := ez_1.trans (pk_mul (2) (a))
  refine lv_iconst (v := 1) hx hb dX9_out_3 (by decide) ?_
  refine lv_iadd hx hb dX9_out_4 ?_
  refine lv_topi (fun z_2 ez_2 => ?_)
  obtain rfl : z_2 = nI ((2 * a) + 1) := ez_2.trans (nI_add (2 * a) (1))
  exact W.iret (v := nI ((2 * a) + 1)) hx hb hr (fun t ht h9 => ⟨nI ((2 * a) + 1), rfl, rfl, ht⟩) (fun q h => by cases h) dX9_out_5

set_option maxHeartbeats 4000000 in
set_option maxRecDepth 100000 in
theorem s_step (l : Launch) (dC : Nat → ClassId) (dI : Nat → Nat → Nat) (sz : Nat) (a : Nat) (b : Nat) (hb_a : a < 16) (hb_b : b < 16) : Met l yX9_step (wT yX9_step cX9_step 2 (some .int)) ({ frames := 0, cells := 0, slots := 0, locals := 0 }) (pcW dC dI [.int (nI a), .int (nI b)] sz [] []) (vp_Si (fun r => r = nI (a * 16 + b))) 0 0 (fun _ => False) := by
  refine Met.ofW (cc := cX9_step) (maxL := 2) (ret := (some .int)) (by decide) rfl ?_
  intro p e s m args below meth c s₁ B hml hv
  obtain ⟨rfl, hsz, hP, hK, hD0⟩ := hv
  have hx := B.exec
  have hb := B.bytes
  have hr := B.returns
  have hT : ∀ wd ∈ TB, wd.before [.int (nI a), .int (nI b)].toArray s = true := fun wd h => atoms_spec (ws := wT yX9_step cX9_step 2 (some .int)) B.pre wd (List.mem_cons_of_mem _ h)
  have hown : s.vm.findClass RX9 = some m.cls := findClass_of_methodNamed B.named
  have hlocks := B.notSynchronized
  subst hsz
  have hl := lv_entry ([.int (nI a), .int (nI b)]) (n := 2) (Nat.le_of_ble_eq_true rfl)
  rw [lg_entry_eq]
  generalize (lg_sl ([.int (nI a), .int (nI b)]) ++ List.replicate (2 - (lg_sl ([.int (nI a), .int (nI b)])).length) Slot.unset).toArray = ls at hl ⊢
  have hl : lv_has ls 2 [(0, .int (nI a)), (1, .int (nI b))] := hl
  refine lv_iload_n hx hb dX9_step_0 rfl (lv_at hl 0 rfl) ?_
  refine lv_bipush (v := 16) hx hb dX9_step_1 (by decide) ?_
  refine lv_imul hx hb dX9_step_3 ?_
  refine lv_topi (fun z_1 ez_1 => ?_)
  obtain rfl : z_1 = nI (a * 16) := ez_1.trans (pk_mul (a) (16))
  refine lv_iload_n hx hb dX9_step_4 rfl (lv_at hl 1 rfl) ?_
  refine lv_iadd hx hb dX9_step_5 ?_
  refine lv_topi (fun z_2 ez_2 => ?_)
  obtain rfl : z_2 = nI ((a * 16) + b) := ez_2.trans (nI_add (a * 16) (b))
  exact W.iret (v := nI ((a * 16) + b)) hx hb hr (fun t ht h9 => ⟨nI ((a * 16) + b), rfl, rfl, ht⟩) (fun q h => by cases h) dX9_step_6

set_option maxHeartbeats 4000000 in
set_option maxRecDepth 100000 in
theorem s_price (l : Launch) (dC : Nat → ClassId) (dI : Nat → Nat → Nat) (cy : Nat → ClassId) (L : List Nat) (kap : Nat → Nat) (pr : Pr) (S : Nat → va_E) (sz : Nat) (v : Nat) (a : Nat) (c2 : Nat) (hTy : Ty cy L kap pr S) (hT_v : TK L kap v 9) (hb_a : a < 16) (hb_c2 : c2 < 16) : Met l yX9_price (wT yX9_price cX9_price 4 (some .int)) ({ frames := 0, cells := 0, slots := 0, locals := 0 }) (pcN dC dI [.ref v, .int (nI a), .int (nI c2)] sz (va_pl L S) (cyT cy) NLs []) (vp_Si (fun r => True)) 0 0 (fun _ => False) := by
  refine Met.ofW (cc := cX9_price) (maxL := 4) (ret := (some .int)) (by decide) rfl ?_
  intro p e s m args below meth c s₁ B hml hv
  obtain ⟨rfl, hsz, hP, hK, hD0, hN, -⟩ := hv
  have hx := B.exec
  have hb := B.bytes
  have hr := B.returns
  have hT : ∀ wd ∈ TB, wd.before [.ref v, .int (nI a), .int (nI c2)].toArray s = true := fun wd h => atoms_spec (ws := wT yX9_price cX9_price 4 (some .int)) B.pre wd (List.mem_cons_of_mem _ h)
  have hown : s.vm.findClass RX9 = some m.cls := findClass_of_methodNamed B.named
  have hlocks := B.notSynchronized
  subst hsz
  have hW : PW dC dI L (AL L s.heap.size) s.heap S s.heap [] := ⟨hP, pl_self hD0, va_S.rf⟩
  have hFr : Fr kap [] S S := Fr.rf
  have hl := lv_entry ([.ref v, .int (nI a), .int (nI c2)]) (n := 4) (Nat.le_of_ble_eq_true rfl)
  rw [lg_entry_eq]
  generalize (lg_sl ([.ref v, .int (nI a), .int (nI c2)]) ++ List.replicate (4 - (lg_sl ([.ref v, .int (nI a), .int (nI c2)])).length) Slot.unset).toArray = ls at hl ⊢
  have hl : lv_has ls 4 [(0, .ref v), (1, .int (nI a)), (2, .int (nI c2))] := hl
  refine lv_iconst (v := 0) hx hb dX9_price_0 (by decide) ?_
  refine lv_istore_n (lv' := [(3, .int 0), (0, .ref v), (1, .int (nI a)), (2, .int (nI c2))]) hx hb dX9_price_1 rfl hl (by decide) rfl (fun ls hl => ?_)
  refine lv_iload_n hx hb dX9_price_2 rfl (lv_at hl 2 rfl) ?_
  refine lv_iconst (v := 1) hx hb dX9_price_3 (by decide) ?_
  refine lv_ishr hx hb dX9_price_4 ?_
  refine lv_topi (fun z_1 ez_1 => ?_)
  refine lv_iload_n hx hb dX9_price_5 rfl (lv_at hl 3 rfl) ?_
  refine lv_iconst (v := 1) hx hb dX9_price_6 (by decide) ?_
  refine lv_ishr hx hb dX9_price_7 ?_
  refine lv_topi (fun z_2 ez_2 => ?_)
  refine lv_icmp_eq (tgt := 24) hx hb dX9_price_8 (by decide) (fun c_8 => ?_) (fun c_8 => ?_)
  · refine lv_iload_n hx hb dX9_price_24 rfl (lv_at hl 0 rfl) ?_
    refine lv_aload_n hx hb dX9_price_25 rfl (lv_at hl 1 rfl) ?_
    obtain ⟨x_3, x_4, x_5, x_6, x_7, x_8, x_9, x_10, x_11, x_12, x_13, x_14, x_15, hS_v, hT_x_3, hT_x_4, hT_x_7, hT_x_8, hT_x_9, hT_x_10, hT_x_11, hT_x_12, hT_x_13, hb_x_14, hb_x_15⟩ := hTy.k9 hT_v
    refine pl_get (ci := 9) (v := .ref x_10) (C := RX9) (T := TX9) (N := 13) hx hb hT iX9 hown hK hW hT_v.1 hS_v rfl 7 (by decide) w274 rfl dX9_price_26 ?_
    refine lv_iload_n hx hb dX9_price_29 rfl (lv_at hl 2 rfl) ?_
    obtain ⟨f_16, hS_x_10⟩ := hTy.k35 hT_x_10
    refine pl_iald hx hb hK hW hT_x_10.1 hS_x_10 (vp_in_nI (n := a) (N := 16) (by omega) (by omega)) dX9_price_30 ?_
    refine lv_topi (fun y_17 ey_17 => ?_)
    refine lv_iadd hx hb dX9_price_31 ?_
    refine lv_topi (fun z_18 ez_18 => ?_)
    refine lv_aload_n hx hb dX9_price_32 rfl (lv_at hl 1 rfl) ?_
    refine pl_get (ci := 9) (v := .ref x_10) (C := RX9) (T := TX9) (N := 13) hx hb hT iX9 hown hK hW hT_v.1 hS_v rfl 7 (by decide) w274 rfl dX9_price_33 ?_
    refine lv_iload_n hx hb dX9_price_36 rfl (lv_at hl 3 rfl) ?_
    refine pl_iald hx hb hK hW hT_x_10.1 hS_x_10 (vp_in_nI (n := c2) (N := 16) (by omega) (by omega)) dX9_price_37 ?_
    refine lv_topi (fun y_19 ey_19 => ?_)
    refine lv_isub hx hb dX9_price_38 ?_
    refine lv_topi (fun z_20 ez_20 => ?_)
    exact W.iret (v := z_20) hx hb hr (fun t ht h9 => ⟨z_20, rfl, trivial, ht⟩) (fun q h => by cases h) dX9_price_39
  · refine lv_iload_n hx hb dX9_price_11 rfl (lv_at hl 2 rfl) ?_
    refine lv_iconst (v := 1) hx hb dX9_price_12 (by decide) ?_
    refine lv_iand hx hb dX9_price_13 ?_
    refine lv_topi (fun z_21 ez_21 => ?_)
    obtain rfl : z_21 = nI (a % 2) := ez_21.trans (pk_andN (n := a) (by omega) 1 (by decide))
    refine lv_iconst (v := 1) hx hb dX9_price_14 (by decide) ?_
    refine lv_icmp_ne (tgt := 22) hx hb dX9_price_15 (by decide) (fun c_15 => ?_) (fun c_15 => ?_)
    · have c_15 : ¬ ((a % 2) = 1) := fun hh9 => c_15 ((nI_eq (a := a % 2) (b := 1) (by omega) (by omega)).mpr hh9)
      refine lv_iconst (v := (-1)) hx hb dX9_price_22 (by decide) ?_
      refine lv_istore_n (lv' := [(3, .int (-1)), (0, .ref v), (1, .int (nI a)), (2, .int (nI c2))]) hx hb dX9_price_23 rfl hl (by decide) rfl (fun ls hl => ?_)
      refine lv_iload_n hx hb dX9_price_24 rfl (lv_at hl 0 rfl) ?_
      refine lv_aload_n hx hb dX9_price_25 rfl (lv_at hl 1 rfl) ?_
      obtain ⟨x_22, x_23, x_24, x_25, x_26, x_27, x_28, x_29, x_30, x_31, x_32, x_33, x_34, hS_v, hT_x_22, hT_x_23, hT_x_26, hT_x_27, hT_x_28, hT_x_29, hT_x_30, hT_x_31, hT_x_32, hb_x_33, hb_x_34⟩ := hTy.k9 hT_v
      refine pl_get (ci := 9) (v := .ref x_29) (C := RX9) (T := TX9) (N := 13) hx hb hT iX9 hown hK hW hT_v.1 hS_v rfl 7 (by decide) w274 rfl dX9_price_26 ?_
      refine lv_iload_n hx hb dX9_price_29 rfl (lv_at hl 2 rfl) ?_
      obtain ⟨f_35, hS_x_29⟩ := hTy.k35 hT_x_29
      refine pl_iald hx hb hK hW hT_x_29.1 hS_x_29 (vp_in_nI (n := a) (N := 16) (by omega) (by omega)) dX9_price_30 ?_
      refine lv_topi (fun y_36 ey_36 => ?_)
      refine lv_iadd hx hb dX9_price_31 ?_
      refine lv_topi (fun z_37 ez_37 => ?_)
      refine lv_aload_n hx hb dX9_price_32 rfl (lv_at hl 1 rfl) ?_
      refine pl_get (ci := 9) (v := .ref x_29) (C := RX9) (T := TX9) (N := 13) hx hb hT iX9 hown hK hW hT_v.1 hS_v rfl 7 (by decide) w274 rfl dX9_price_33 ?_
      refine lv_iload_n hx hb dX9_price_36 rfl (lv_at hl 3 rfl) ?_
      refine pl_iald hx hb hK hW hT_x_29.1 hS_x_29 (vp_in_nI (n := c2) (N := 16) (by omega) (by omega)) dX9_price_37 ?_
      refine lv_topi (fun y_38 ey_38 => ?_)
      refine lv_isub hx hb dX9_price_38 ?_
      refine lv_topi (fun z_39 ez_39 => ?_)
      exact W.iret (v := z_39) hx hb hr (fun t ht h9 => ⟨z_39, rfl, trivial, ht⟩) (fun q h => by cases h) dX9_price_39
    · have c_15 : (a % 2) = 1 := (nI_eq (a := a % 2) (b := 1) (by omega) (by omega)).mp c_15
      refine lv_iconst (v := 1) hx hb dX9_price_18 (by decide) ?_
      refine lv_goto (tgt := 23) hx hb dX9_price_19 (by decide) ?_
      refine lv_istore_n (lv' := [(3, .int 1), (0, .ref v), (1, .int (nI a)), (2, .int (nI c2))]) hx hb dX9_price_23 rfl hl (by decide) rfl (fun ls hl => ?_)
      refine lv_iload_n hx hb dX9_price_24 rfl (lv_at hl 0 rfl) ?_
      refine lv_aload_n hx hb dX9_price_25 rfl (lv_at hl 1 rfl) ?_
      obtain ⟨x_40, x_41, x_42, x_43, x_44, x_45, x_46, x_47, x_48, x_49, x_50, x_51, x_52, hS_v, hT_x_40, hT_x_41, hT_x_44, hT_x_45, hT_x_46, hT_x_47, hT_x_48, hT_x_49, hT_x_50, hb_x_51, hb_x_52⟩ := hTy.k9 hT_v
      refine pl_get (ci := 9) (v := .ref x_47) (C := RX9) (T := TX9) (N := 13) hx hb hT iX9 hown hK hW hT_v.1 hS_v rfl 7 (by decide) w274 rfl dX9_price_26 ?_
      refine lv_iload_n hx hb dX9_price_29 rfl (lv_at hl 2 rfl) ?_
      obtain ⟨f_53, hS_x_47⟩ := hTy.k35 hT_x_47
      refine pl_iald hx hb hK hW hT_x_47.1 hS_x_47 (vp_in_nI (n := a) (N := 16) (by omega) (by omega)) dX9_price_30 ?_
      refine lv_topi (fun y_54 ey_54 => ?_)
      refine lv_iadd hx hb dX9_price_31 ?_
      refine lv_topi (fun z_55 ez_55 => ?_)
      refine lv_aload_n hx hb dX9_price_32 rfl (lv_at hl 1 rfl) ?_
      refine pl_get (ci := 9) (v := .ref x_47) (C := RX9) (T := TX9) (N := 13) hx hb hT iX9 hown hK hW hT_v.1 hS_v rfl 7 (by decide) w274 rfl dX9_price_33 ?_
      refine lv_iload_n hx hb dX9_price_36 rfl (lv_at hl 3 rfl) ?_
      refine pl_iald hx hb hK hW hT_x_47.1 hS_x_47 (vp_in_nI (n := c2) (N := 16) (by omega) (by omega)) dX9_price_37 ?_
      refine lv_topi (fun y_56 ey_56 => ?_)
      refine lv_isub hx hb dX9_price_38 ?_
      refine lv_topi (fun z_57 ez_57 => ?_)
      exact W.iret (v := z_57) hx hb hr (fun t ht h9 => ⟨z_57, rfl, trivial, ht⟩) (fun q h => by cases h) dX9_price_39

set_option maxHeartbeats 4000000 in
set_option maxRecDepth 100000 in
theorem s_nothing (l : Launch) (dC : Nat → ClassId) (dI : Nat → Nat → Nat) (cy : Nat → ClassId) (L : List Nat) (kap : Nat → Nat) (pr : Pr) (S : Nat → va_E) (sz : Nat) (v : Nat) (hTy : Ty cy L kap pr S) (hT_v : TK L kap v 9) : Met l yX9_nothingLeft (wT yX9_nothingLeft cX9_nothingLeft 2 (some .boolean)) ({ frames := 0, cells := 0, slots := 0, locals := 0 }) (pcN dC dI [.ref v] sz (va_pl L S) (cyT cy) NLs []) (vp_Si (fun r => r = 0 ∨ r = 1)) 0 0 (fun _ => False) := by
  refine Met.ofW (cc := cX9_nothingLeft) (maxL := 2) (ret := (some .boolean)) (by decide) rfl ?_
  intro p e s m args below meth c s₁ B hml hv
  obtain ⟨rfl, hsz, hP, hK, hD0, hN, -⟩ := hv
  have hx := B.exec
  have hb := B.bytes
  have hr := B.returns
  have hT : ∀ wd ∈ TB, wd.before [.ref v].toArray s = true := fun wd h => atoms_spec (ws := wT yX9_nothingLeft cX9_nothingLeft 2 (some .boolean)) B.pre wd (List.mem_cons_of_mem _ h)
  have hown : s.vm.findClass RX9 = some m.cls := findClass_of_methodNamed B.named
  have hlocks := B.notSynchronized
  subst hsz
  have hW : PW dC dI L (AL L s.heap.size) s.heap S s.heap [] := ⟨hP, pl_self hD0, va_S.rf⟩
  have hFr : Fr kap [] S S := Fr.rf
  have hl := lv_entry ([.ref v]) (n := 2) (Nat.le_of_ble_eq_true rfl)
  rw [lg_entry_eq]
  generalize (lg_sl ([.ref v]) ++ List.replicate (2 - (lg_sl ([.ref v])).length) Slot.unset).toArray = ls at hl ⊢
  have hl : lv_has ls 2 [(0, .ref v)] := hl
  refine lv_iconst (v := 0) hx hb dX9_nothingLeft_0 (by decide) ?_
  refine lv_istore_n (lv' := [(1, .int 0), (0, .ref v)]) hx hb dX9_nothingLeft_1 rfl hl (by decide) rfl (fun ls hl => ?_)
  have loop : ∀ (fuel : Nat) (i : Nat) (ls : Array Slot), 17 - i < fuel → (i ≤ 16) → lv_has ls 2 [(1, .int (nI i)), (0, .ref v)] → W p l e (headSpec (wT yX9_nothingLeft cX9_nothingLeft 2 (some .boolean)) { frames := 0, cells := 0, slots := 0, locals := 0 }).room s m [.ref v].toArray below meth c s.heap [] 0 0 (MQ below (vp_Si (fun r => r = 0 ∨ r = 1)) [.ref v].toArray s 0 0 (fun _ => False)) (F0 m 2 ls []) := by
    intro fuel
    induction fuel with
    | zero => intro i ls h; exact absurd h (Nat.not_lt_zero _)
    | succ fu2 ih2 =>
      intro i ls hm2 hb_i hl
      refine lv_iload_n hx hb dX9_nothingLeft_2 rfl (lv_at hl 0 rfl) ?_
      refine lv_aload_n hx hb dX9_nothingLeft_3 rfl (lv_at hl 1 rfl) ?_
      obtain ⟨x_1, x_2, x_3, x_4, x_5, x_6, x_7, x_8, x_9, x_10, x_11, x_12, x_13, hS_v, hT_x_1, hT_x_2, hT_x_5, hT_x_6, hT_x_7, hT_x_8, hT_x_9, hT_x_10, hT_x_11, hb_x_12, hb_x_13⟩ := hTy.k9 hT_v
      refine pl_get (ci := 9) (v := .int (nI x_13)) (C := RX9) (T := TX9) (N := 13) hx hb hT iX9 hown hK hW hT_v.1 hS_v rfl 12 (by decide) w279 rfl dX9_nothingLeft_4 ?_
      refine lv_icmp_ge (tgt := 29) hx hb dX9_nothingLeft_7 (by decide) (fun c_7 => ?_) (fun c_7 => ?_)
      · have c_7 : x_13 ≤ i := (nI_leI (a := x_13) (b := i) (by omega) (by omega)).mp c_7
        refine lv_iconst (v := 1) hx hb dX9_nothingLeft_29 (by decide) ?_
        exact W.zret (ty := .boolean) (v := 1) hx hb hr (by decide) (fun t ht h9 => ⟨1, rfl, Or.inr rfl, ht⟩) (fun q h => by cases h) dX9_nothingLeft_30
      · have c_7 : ¬ (x_13 ≤ i) := fun hh9 => c_7 ((nI_leI (a := x_13) (b := i) (by omega) (by omega)).mpr hh9)
        refine lv_aload_n hx hb dX9_nothingLeft_10 rfl (lv_at hl 1 rfl) ?_
        refine pl_get (ci := 9) (v := .ref x_9) (C := RX9) (T := TX9) (N := 13) hx hb hT iX9 hown hK hW hT_v.1 hS_v rfl 8 (by decide) w275 rfl dX9_nothingLeft_11 ?_
        refine lv_iload_n hx hb dX9_nothingLeft_14 rfl (lv_at hl 0 rfl) ?_
        obtain ⟨f_14, hS_x_9⟩ := hTy.k36 hT_x_9
        refine pl_lald hx hb hK hW hT_x_9.1 hS_x_9 (vp_in_nI (n := i) (N := 16) (by omega) (by omega)) dX9_nothingLeft_15 ?_
        refine lv_topl (fun y_15 ey_15 => ?_)
        refine lv_lconst (v := 0) hx hb dX9_nothingLeft_16 (by decide) ?_
        refine W.lcmp hx hb dX9_nothingLeft_17 ?_
        refine lv_if_eq (tgt := 23) hx hb dX9_nothingLeft_18 (by decide) (fun c_18 => ?_) (fun c_18 => ?_)
        · refine lv_iinc (v := nI (i + 1)) (lv' := [(1, .int (nI (i + 1))), (0, .ref v)]) hx hb dX9_nothingLeft_23 hl (k := 0) rfl (nI_add (i) 1) (by decide) rfl (fun ls hl => ?_)
          refine lv_goto (tgt := 2) hx hb dX9_nothingLeft_26 (by decide) ?_
          exact ih2 (i + 1) ls (by omega) (by omega) (lv_sub hl [0, 1] rfl)
        · refine lv_iconst (v := 0) hx hb dX9_nothingLeft_21 (by decide) ?_
          exact W.zret (ty := .boolean) (v := 0) hx hb hr (by decide) (fun t ht h9 => ⟨0, rfl, Or.inl rfl, ht⟩) (fun q h => by cases h) dX9_nothingLeft_22
  exact loop ((17 - 0) + 1) 0 ls (Nat.lt_succ_self _) (by omega) (lv_sub hl [0, 1] rfl)

set_option maxHeartbeats 4000000 in
set_option maxRecDepth 100000 in
theorem s_together (l : Launch) (dC : Nat → ClassId) (dI : Nat → Nat → Nat) (cy : Nat → ClassId) (L : List Nat) (kap : Nat → Nat) (pr : Pr) (S : Nat → va_E) (sz : Nat) (v : Nat) (hTy : Ty cy L kap pr S) (hT_v : TK L kap v 9) : Met l yX9_numbersTogether (wT yX9_numbersTogether cX9_numbersTogether 5 (some .long)) ({ frames := 1, cells := 0, slots := 0, locals := 21 }) (pcN dC dI [.ref v] sz (va_pl L S) (cyT cy) NLs []) (vp_Sl (fun r => True)) 0 0 (fun _ => False) := by
  refine Met.ofW (cc := cX9_numbersTogether) (maxL := 5) (ret := (some .long)) (by decide) rfl ?_
  intro p e s m args below meth c s₁ B hml hv
  obtain ⟨rfl, hsz, hP, hK, hD0, hN, -⟩ := hv
  have hx := B.exec
  have hb := B.bytes
  have hr := B.returns
  have hT : ∀ wd ∈ TB, wd.before [.ref v].toArray s = true := fun wd h => atoms_spec (ws := wT yX9_numbersTogether cX9_numbersTogether 5 (some .long)) B.pre wd (List.mem_cons_of_mem _ h)
  have hown : s.vm.findClass RX9 = some m.cls := findClass_of_methodNamed B.named
  have hlocks := B.notSynchronized
  subst hsz
  have hW : PW dC dI L (AL L s.heap.size) s.heap S s.heap [] := ⟨hP, pl_self hD0, va_S.rf⟩
  have hFr : Fr kap [] S S := Fr.rf
  have hl := lv_entry ([.ref v]) (n := 5) (Nat.le_of_ble_eq_true rfl)
  rw [lg_entry_eq]
  generalize (lg_sl ([.ref v]) ++ List.replicate (5 - (lg_sl ([.ref v])).length) Slot.unset).toArray = ls at hl ⊢
  have hl : lv_has ls 5 [(0, .ref v)] := hl
  refine lv_lconst (v := 0) hx hb dX9_numbersTogether_0 (by decide) ?_
  refine lv_lstore_n (lv' := [(1, .long 0), (0, .ref v)]) hx hb dX9_numbersTogether_1 rfl hl (by decide) rfl (fun ls hl => ?_)
  refine lv_iconst (v := 0) hx hb dX9_numbersTogether_2 (by decide) ?_
  refine lv_istore_n (lv' := [(3, .int 0), (1, .long 0), (0, .ref v)]) hx hb dX9_numbersTogether_3 rfl hl (by decide) rfl (fun ls hl => ?_)
  have loop : ∀ (fuel : Nat) (i : Nat) (sm : Int64) (ls : Array Slot), 9 - i < fuel → (i ≤ 8) → lv_has ls 5 [(3, .int (nI i)), (1, .long sm), (0, .ref v)] → W p l e (headSpec (wT yX9_numbersTogether cX9_numbersTogether 5 (some .long)) { frames := 1, cells := 0, slots := 0, locals := 21 }).room s m [.ref v].toArray below meth c s.heap [] 0 0 (MQ below (vp_Sl (fun r => True)) [.ref v].toArray s 0 0 (fun _ => False)) (F0 m 4 ls []) := by
    intro fuel
    induction fuel with
    | zero => intro i sm ls h; exact absurd h (Nat.not_lt_zero _)
    | succ fu4 ih4 =>
      intro i sm ls hm4 hb_i hl
      refine lv_iload_n hx hb dX9_numbersTogether_4 rfl (lv_at hl 0 rfl) ?_
      refine lv_aload_n hx hb dX9_numbersTogether_5 rfl (lv_at hl 2 rfl) ?_
      obtain ⟨x_1, x_2, x_3, x_4, x_5, x_6, x_7, x_8, x_9, x_10, x_11, x_12, x_13, hS_v, hT_x_1, hT_x_2, hT_x_5, hT_x_6, hT_x_7, hT_x_8, hT_x_9, hT_x_10, hT_x_11, hb_x_12, hb_x_13⟩ := hTy.k9 hT_v
      refine pl_get (ci := 9) (v := .int (nI x_12)) (C := RX9) (T := TX9) (N := 13) hx hb hT iX9 hown hK hW hT_v.1 hS_v rfl 11 (by decide) w278 rfl dX9_numbersTogether_6 ?_
      refine lv_icmp_ge (tgt := 62) hx hb dX9_numbersTogether_9 (by decide) (fun c_9 => ?_) (fun c_9 => ?_)
      · have c_9 : x_12 ≤ i := (nI_leI (a := x_12) (b := i) (by omega) (by omega)).mp c_9
        refine lv_lload_n hx hb dX9_numbersTogether_62 rfl (lv_at hl 1 rfl) ?_
        exact W.lret (v := sm) hx hb hr (fun t ht h9 => ⟨sm, rfl, trivial, ht⟩) (fun q h => by cases h) dX9_numbersTogether_63
      · have c_9 : ¬ (x_12 ≤ i) := fun hh9 => c_9 ((nI_leI (a := x_12) (b := i) (by omega) (by omega)).mpr hh9)
        refine lv_iconst (v := 0) hx hb dX9_numbersTogether_12 (by decide) ?_
        refine lv_istore (lv' := [(4, .int 0), (3, .int (nI i)), (1, .long sm), (0, .ref v)]) hx hb dX9_numbersTogether_13 hl (by decide) rfl (fun ls hl => ?_)
        have loop : ∀ (fuel : Nat) (j : Nat) (sm2 : Int64) (ls : Array Slot), 9 - j < fuel → (j ≤ 8) → lv_has ls 5 [(4, .int (nI j)), (3, .int (nI i)), (1, .long sm2), (0, .ref v)] → W p l e (headSpec (wT yX9_numbersTogether cX9_numbersTogether 5 (some .long)) { frames := 1, cells := 0, slots := 0, locals := 21 }).room s m [.ref v].toArray below meth c s.heap [] 0 0 (MQ below (vp_Sl (fun r => True)) [.ref v].toArray s 0 0 (fun _ => False)) (F0 m 15 ls []) := by
          intro fuel
          induction fuel with
          | zero => intro j sm2 ls h; exact absurd h (Nat.not_lt_zero _)
          | succ fu15 ih15 =>
            intro j sm2 ls hm15 hb_j hl
            refine lv_iload hx hb dX9_numbersTogether_15 (lv_at hl 0 rfl) ?_
            refine lv_aload_n hx hb dX9_numbersTogether_17 rfl (lv_at hl 3 rfl) ?_
            refine pl_get (ci := 9) (v := .int (nI x_12)) (C := RX9) (T := TX9) (N := 13) hx hb hT iX9 hown hK hW hT_v.1 hS_v rfl 11 (by decide) w278 rfl dX9_numbersTogether_18 ?_
            refine lv_icmp_ge (tgt := 56) hx hb dX9_numbersTogether_21 (by decide) (fun c_21 => ?_) (fun c_21 => ?_)
            · have c_21 : x_12 ≤ j := (nI_leI (a := x_12) (b := j) (by omega) (by omega)).mp c_21
              refine lv_iinc (v := nI (i + 1)) (lv' := [(3, .int (nI (i + 1))), (4, .int (nI j)), (1, .long sm2), (0, .ref v)]) hx hb dX9_numbersTogether_56 hl (k := 1) rfl (nI_add (i) 1) (by decide) rfl (fun ls hl => ?_)
              refine lv_goto (tgt := 4) hx hb dX9_numbersTogether_59 (by decide) ?_
              exact ih4 (i + 1) sm2 ls (by omega) (by omega) (lv_sub hl [0, 2, 3] rfl)
            · have c_21 : ¬ (x_12 ≤ j) := fun hh9 => c_21 ((nI_leI (a := x_12) (b := j) (by omega) (by omega)).mpr hh9)
              refine lv_iload_n hx hb dX9_numbersTogether_24 rfl (lv_at hl 1 rfl) ?_
              refine lv_iload hx hb dX9_numbersTogether_25 (lv_at hl 0 rfl) ?_
              refine lv_icmp_eq (tgt := 50) hx hb dX9_numbersTogether_27 (by decide) (fun c_27 => ?_) (fun c_27 => ?_)
              · have c_27 : i = j := (nI_eq (a := i) (b := j) (by omega) (by omega)).mp c_27
                refine lv_iinc (v := nI (j + 1)) (lv' := [(4, .int (nI (j + 1))), (3, .int (nI i)), (1, .long sm2), (0, .ref v)]) hx hb dX9_numbersTogether_50 hl (k := 0) rfl (nI_add (j) 1) (by decide) rfl (fun ls hl => ?_)
                refine lv_goto (tgt := 15) hx hb dX9_numbersTogether_53 (by decide) ?_
                exact ih15 (j + 1) sm2 ls (by omega) (by omega) (lv_sub hl [0, 1, 2, 3] rfl)
              · have c_27 : ¬ (i = j) := fun hh9 => c_27 ((nI_eq (a := i) (b := j) (by omega) (by omega)).mpr hh9)
                refine lv_lload_n hx hb dX9_numbersTogether_30 rfl (lv_at hl 2 rfl) ?_
                refine lv_aload_n hx hb dX9_numbersTogether_31 rfl (lv_at hl 3 rfl) ?_
                refine pl_get (ci := 9) (v := .ref x_7) (C := RX9) (T := TX9) (N := 13) hx hb hT iX9 hown hK hW hT_v.1 hS_v rfl 6 (by decide) w273 rfl dX9_numbersTogether_32 ?_
                refine lv_iload hx hb dX9_numbersTogether_35 (lv_at hl 0 rfl) ?_
                refine vp_callSi (va_Run.run (va_runS (As := [.int (nI j)]) (rest := [.ref x_7, .long sm2]) ⟨hx, hb, hml, hown, hT⟩ (s_in l dC dI s.heap.size j (by omega)) (va_cwS 1 hT (gS w771 w772 w11 w773) rfl rfl rfl (by decide +kernel) ⟨(Nat.le_of_ble_eq_true rfl), (Nat.le_of_ble_eq_true rfl)⟩) ⟨pcW.blind, pcW.pre (va_P0 _ _ _) (hK.sub (tys' := []) [] rfl) (va_D0 (fun _ => True))⟩ rfl rfl hl.1 rfl (lv_room (Nat.le_of_ble_eq_true rfl)) dX9_numbersTogether_37 ⟨(Nat.le_of_ble_eq_true rfl), (Nat.le_of_ble_eq_true rfl)⟩)) (fun r_14 hr_14 => ?_)
                obtain rfl : r_14 = nI (2 * j) := hr_14
                refine lv_iload_n hx hb dX9_numbersTogether_40 rfl (lv_at hl 1 rfl) ?_
                refine vp_callSi (va_Run.run (va_runS (As := [.int (nI i)]) (rest := [.int (nI (2 * j)), .ref x_7, .long sm2]) ⟨hx, hb, hml, hown, hT⟩ (s_out l dC dI s.heap.size i (by omega)) (va_cwS 1 hT (gS w774 w775 w11 w776) rfl rfl rfl (by decide +kernel) ⟨(Nat.le_of_ble_eq_true rfl), (Nat.le_of_ble_eq_true rfl)⟩) ⟨pcW.blind, pcW.pre (va_P0 _ _ _) (hK.sub (tys' := []) [] rfl) (va_D0 (fun _ => True))⟩ rfl rfl hl.1 rfl (lv_room (Nat.le_of_ble_eq_true rfl)) dX9_numbersTogether_41 ⟨(Nat.le_of_ble_eq_true rfl), (Nat.le_of_ble_eq_true rfl)⟩)) (fun r_15 hr_15 => ?_)
                obtain rfl : r_15 = nI (2 * i + 1) := hr_15
                refine vp_callSi (va_Run.run (va_runS (As := [.int (nI (2 * j)), .int (nI (2 * i + 1))]) (rest := [.ref x_7, .long sm2]) ⟨hx, hb, hml, hown, hT⟩ (s_step l dC dI s.heap.size (2 * j) (2 * i + 1) (by omega) (by omega)) (va_cwS 2 hT (gS w777 w778 w11 w779) rfl rfl rfl (by decide +kernel) ⟨(Nat.le_of_ble_eq_true rfl), (Nat.le_of_ble_eq_true rfl)⟩) ⟨pcW.blind, pcW.pre (va_P0 _ _ _) (hK.sub (tys' := []) [] rfl) (va_D0 (fun _ => True))⟩ rfl rfl hl.1 rfl (lv_room (Nat.le_of_ble_eq_true rfl)) dX9_numbersTogether_44 ⟨(Nat.le_of_ble_eq_true rfl), (Nat.le_of_ble_eq_true rfl)⟩)) (fun r_16 hr_16 => ?_)
                obtain rfl : r_16 = nI ((2 * j) * 16 + (2 * i + 1)) := hr_16
                obtain ⟨f_17, hS_x_7⟩ := hTy.k45 hT_x_7
                refine pl_lald hx hb hK hW hT_x_7.1 hS_x_7 (vp_in_nI (n := (2 * j) * 16 + (2 * i + 1)) (N := 256) (by omega) (by omega)) dX9_numbersTogether_47 ?_
                refine lv_topl (fun y_18 ey_18 => ?_)
                refine lv_ladd hx hb dX9_numbersTogether_48 ?_
                refine lv_topl (fun z_19 ez_19 => ?_)
                refine lv_lstore_n (lv' := [(1, .long z_19), (4, .int (nI j)), (3, .int (nI i)), (0, .ref v)]) hx hb dX9_numbersTogether_49 rfl hl (by decide) rfl (fun ls hl => ?_)
                refine lv_iinc (v := nI (j + 1)) (lv' := [(4, .int (nI (j + 1))), (1, .long z_19), (3, .int (nI i)), (0, .ref v)]) hx hb dX9_numbersTogether_50 hl (k := 1) rfl (nI_add (j) 1) (by decide) rfl (fun ls hl => ?_)
                refine lv_goto (tgt := 15) hx hb dX9_numbersTogether_53 (by decide) ?_
                exact ih15 (j + 1) z_19 ls (by omega) (by omega) (lv_sub hl [0, 2, 1, 3] rfl)
        exact loop ((9 - 0) + 1) 0 sm ls (Nat.lt_succ_self _) (by omega) (lv_sub hl [0, 1, 2, 3] rfl)
  exact loop ((9 - 0) + 1) 0 0 ls (Nat.lt_succ_self _) (by omega) (lv_sub hl [0, 1, 2] rfl)

set_option maxHeartbeats 4000000 in
set_option maxRecDepth 100000 in
theorem s_open (l : Launch) (dC : Nat → ClassId) (dI : Nat → Nat → Nat) (cy : Nat → ClassId) (L : List Nat) (kap : Nat → Nat) (pr : Pr) (S : Nat → va_E) (sz : Nat) (v : Nat) (a : Nat) (c2 : Nat) (x : Int64) (hTy : Ty cy L kap pr S) (hT_v : TK L kap v 9) (hb_a : a < 8) (hb_c2 : c2 < 8) : Met l yX9_open (wT yX9_open cX9_open 5 none) ({ frames := 1, cells := 0, slots := 0, locals := 21 }) (pcN dC dI [.ref v, .int (nI a), .int (nI c2), .long x] sz (va_pl L S) (cyT cy) NLs []) (va_Qv (fun S' => Ty cy L kap pr S' ∧ Fr kap [45] S S') (fun S' t => pB dC dI (AL L sz) (va_pl L S') (cyT cy) t) (AL L sz)) 0 0 (AL L sz) := by
  refine Met.ofW (cc := cX9_open) (maxL := 5) (ret := none) (by decide) rfl ?_
  intro p e s m args below meth c s₁ B hml hv
  obtain ⟨rfl, hsz, hP, hK, hD0, hN, -⟩ := hv
  have hx := B.exec
  have hb := B.bytes
  have hr := B.returns
  have hT : ∀ wd ∈ TB, wd.before [.ref v, .int (nI a), .int (nI c2), .long x].toArray s = true := fun wd h => atoms_spec (ws := wT yX9_open cX9_open 5 none) B.pre wd (List.mem_cons_of_mem _ h)
  have hown : s.vm.findClass RX9 = some m.cls := findClass_of_methodNamed B.named
  have hlocks := B.notSynchronized
  subst hsz
  have hW : PW dC dI L (AL L s.heap.size) s.heap S s.heap [] := ⟨hP, pl_self hD0, va_S.rf⟩
  have hA0 : ∀ q, q ∈ L → AL L s.heap.size q := fun _ h => Or.inl h
  have hA : ∀ q, s.heap.size ≤ q → AL L s.heap.size q := fun _ h => Or.inr h
  have hFr : Fr kap [45] S S := Fr.rf
  have hl := lv_entry ([.ref v, .int (nI a), .int (nI c2), .long x]) (n := 5) (Nat.le_of_ble_eq_true rfl)
  rw [lg_entry_eq]
  generalize (lg_sl ([.ref v, .int (nI a), .int (nI c2), .long x]) ++ List.replicate (5 - (lg_sl ([.ref v, .int (nI a), .int (nI c2), .long x])).length) Slot.unset).toArray = ls at hl ⊢
  have hl : lv_has ls 5 [(0, .ref v), (1, .int (nI a)), (2, .int (nI c2)), (3, .long x)] := hl
  refine lv_aload_n hx hb dX9_open_0 rfl (lv_at hl 0 rfl) ?_
  obtain ⟨x_1, x_2, x_3, x_4, x_5, x_6, x_7, x_8, x_9, x_10, x_11, x_12, x_13, hS_v, hT_x_1, hT_x_2, hT_x_5, hT_x_6, hT_x_7, hT_x_8, hT_x_9, hT_x_10, hT_x_11, hb_x_12, hb_x_13⟩ := hTy.k9 hT_v
  refine pl_get (ci := 9) (v := .ref x_7) (C := RX9) (T := TX9) (N := 13) hx hb hT iX9 hown hK hW hT_v.1 hS_v rfl 6 (by decide) w273 rfl dX9_open_1 ?_
  refine lv_iload_n hx hb dX9_open_4 rfl (lv_at hl 1 rfl) ?_
  refine vp_callSi (va_Run.run (va_runS (As := [.int (nI a)]) (rest := [.ref x_7]) ⟨hx, hb, hml, hown, hT⟩ (s_out l dC dI s.heap.size a (by omega)) (va_cwS 1 hT (gS w774 w775 w11 w776) rfl rfl rfl (by decide +kernel) ⟨(Nat.le_of_ble_eq_true rfl), (Nat.le_of_ble_eq_true rfl)⟩) ⟨pcW.blind, pcW.pre (va_P0 _ _ _) (hK.sub (tys' := []) [] rfl) (va_D0 (fun _ => True))⟩ rfl rfl hl.1 rfl (lv_room (Nat.le_of_ble_eq_true rfl)) dX9_open_5 ⟨(Nat.le_of_ble_eq_true rfl), (Nat.le_of_ble_eq_true rfl)⟩)) (fun r_14 hr_14 => ?_)
  obtain rfl : r_14 = nI (2 * a + 1) := hr_14
  refine lv_iload_n hx hb dX9_open_8 rfl (lv_at hl 2 rfl) ?_
  refine vp_callSi (va_Run.run (va_runS (As := [.int (nI c2)]) (rest := [.int (nI (2 * a + 1)), .ref x_7]) ⟨hx, hb, hml, hown, hT⟩ (s_in l dC dI s.heap.size c2 (by omega)) (va_cwS 1 hT (gS w771 w772 w11 w773) rfl rfl rfl (by decide +kernel) ⟨(Nat.le_of_ble_eq_true rfl), (Nat.le_of_ble_eq_true rfl)⟩) ⟨pcW.blind, pcW.pre (va_P0 _ _ _) (hK.sub (tys' := []) [] rfl) (va_D0 (fun _ => True))⟩ rfl rfl hl.1 rfl (lv_room (Nat.le_of_ble_eq_true rfl)) dX9_open_9 ⟨(Nat.le_of_ble_eq_true rfl), (Nat.le_of_ble_eq_true rfl)⟩)) (fun r_15 hr_15 => ?_)
  obtain rfl : r_15 = nI (2 * c2) := hr_15
  refine vp_callSi (va_Run.run (va_runS (As := [.int (nI (2 * a + 1)), .int (nI (2 * c2))]) (rest := [.ref x_7]) ⟨hx, hb, hml, hown, hT⟩ (s_step l dC dI s.heap.size (2 * a + 1) (2 * c2) (by omega) (by omega)) (va_cwS 2 hT (gS w777 w778 w11 w779) rfl rfl rfl (by decide +kernel) ⟨(Nat.le_of_ble_eq_true rfl), (Nat.le_of_ble_eq_true rfl)⟩) ⟨pcW.blind, pcW.pre (va_P0 _ _ _) (hK.sub (tys' := []) [] rfl) (va_D0 (fun _ => True))⟩ rfl rfl hl.1 rfl (lv_room (Nat.le_of_ble_eq_true rfl)) dX9_open_12 ⟨(Nat.le_of_ble_eq_true rfl), (Nat.le_of_ble_eq_true rfl)⟩)) (fun r_16 hr_16 => ?_)
  obtain rfl : r_16 = nI ((2 * a + 1) * 16 + (2 * c2)) := hr_16
  refine lv_aload_n hx hb dX9_open_15 rfl (lv_at hl 0 rfl) ?_
  refine pl_get (ci := 9) (v := .ref x_1) (C := RX9) (T := TX9) (N := 13) hx hb hT iX9 hown hK hW hT_v.1 hS_v rfl 0 (by decide) w263 rfl dX9_open_16 ?_
  refine lv_iload_n hx hb dX9_open_19 rfl (lv_at hl 1 rfl) ?_
  refine lv_iload_n hx hb dX9_open_20 rfl (lv_at hl 2 rfl) ?_
  refine vp_callSi (va_Run.run (va_runSN (As := [.int (nI a), .int (nI c2)]) (rest := [.ref x_1, .int (nI ((2 * a + 1) * 16 + (2 * c2))), .ref x_7]) ⟨hx, hb, hml, hown, hT⟩ (s_cell l dC dI s.heap.size a c2 (by omega) (by omega)) ⟨va_cnB 2 hT (gT w577) rfl rfl rfl (hN (RX9, 70, yX11_cell, RX11) (by decide +kernel)) (hT _ w1) (by decide +kernel) ⟨(Nat.le_of_ble_eq_true rfl), (Nat.le_of_ble_eq_true rfl)⟩, (hT _ w576), trivial⟩ ⟨pcW.blind, pcW.pre (va_P0 _ _ _) (hK.sub (tys' := []) [] rfl) (va_D0 (fun _ => True))⟩ rfl rfl hl.1 rfl (lv_room (Nat.le_of_ble_eq_true rfl)) dX9_open_21 ⟨(Nat.le_of_ble_eq_true rfl), (Nat.le_of_ble_eq_true rfl)⟩)) (fun r_17 hr_17 => ?_)
  obtain rfl : r_17 = nI (a * 8 + c2) := hr_17
  obtain ⟨f_18, hS_x_1⟩ := hTy.k29 hT_x_1
  refine pl_lald hx hb hK hW hT_x_1.1 hS_x_1 (vp_in_nI (n := a * 8 + c2) (N := 64) (by omega) (by omega)) dX9_open_24 ?_
  refine lv_topl (fun y_19 ey_19 => ?_)
  refine lv_lload_n hx hb dX9_open_25 rfl (lv_at hl 3 rfl) ?_
  refine lv_lsub hx hb dX9_open_26 ?_
  refine lv_topl (fun z_20 ez_20 => ?_)
  obtain ⟨f_21, hS_x_7⟩ := hTy.k45 hT_x_7
  refine pl_last hx hb hK hW hT_x_7.1 hS_x_7 (vp_in_nI (n := (2 * a + 1) * 16 + (2 * c2)) (N := 256) (by omega) (by omega)) dX9_open_27 (fun H locs f_23 S_22 ef_f_23 e1 hW => ?_)
  have hTy := hTy.u45 e1 hT_x_7 ⟨f_23, rfl⟩
  have hS_v := un e1 hT_v hT_x_7 (by decide) hS_v
  have hS_x_1 := un e1 hT_x_1 hT_x_7 (by decide) hS_x_1
  have hFr := uf hFr e1 hT_x_7 (by decide) (by decide)
  have hS_x_7 := us e1
  refine lv_aload_n hx hb dX9_open_28 rfl (lv_at hl 0 rfl) ?_
  refine pl_get (ci := 9) (v := .ref x_7) (C := RX9) (T := TX9) (N := 13) hx hb hT iX9 hown hK hW hT_v.1 hS_v rfl 6 (by decide) w273 rfl dX9_open_29 ?_
  refine lv_iload_n hx hb dX9_open_32 rfl (lv_at hl 2 rfl) ?_
  refine vp_callSi (va_Run.run (va_runS (As := [.int (nI c2)]) (rest := [.ref x_7]) ⟨hx, hb, hml, hown, hT⟩ (s_in l dC dI H.size c2 (by omega)) (va_cwS 1 hT (gS w771 w772 w11 w773) rfl rfl rfl (by decide +kernel) ⟨(Nat.le_of_ble_eq_true rfl), (Nat.le_of_ble_eq_true rfl)⟩) ⟨pcW.blind, pcW.pre (va_P0 _ _ _) (hK.sub (tys' := []) [] rfl) (va_D0 (fun _ => True))⟩ rfl rfl hl.1 rfl (lv_room (Nat.le_of_ble_eq_true rfl)) dX9_open_33 ⟨(Nat.le_of_ble_eq_true rfl), (Nat.le_of_ble_eq_true rfl)⟩)) (fun r_24 hr_24 => ?_)
  obtain rfl : r_24 = nI (2 * c2) := hr_24
  refine lv_iload_n hx hb dX9_open_36 rfl (lv_at hl 1 rfl) ?_
  refine vp_callSi (va_Run.run (va_runS (As := [.int (nI a)]) (rest := [.int (nI (2 * c2)), .ref x_7]) ⟨hx, hb, hml, hown, hT⟩ (s_out l dC dI H.size a (by omega)) (va_cwS 1 hT (gS w774 w775 w11 w776) rfl rfl rfl (by decide +kernel) ⟨(Nat.le_of_ble_eq_true rfl), (Nat.le_of_ble_eq_true rfl)⟩) ⟨pcW.blind, pcW.pre (va_P0 _ _ _) (hK.sub (tys' := []) [] rfl) (va_D0 (fun _ => True))⟩ rfl rfl hl.1 rfl (lv_room (Nat.le_of_ble_eq_true rfl)) dX9_open_37 ⟨(Nat.le_of_ble_eq_true rfl), (Nat.le_of_ble_eq_true rfl)⟩)) (fun r_25 hr_25 => ?_)
  obtain rfl : r_25 = nI (2 * a + 1) := hr_25
  refine vp_callSi (va_Run.run (va_runS (As := [.int (nI (2 * c2)), .int (nI (2 * a + 1))]) (rest := [.ref x_7]) ⟨hx, hb, hml, hown, hT⟩ (s_step l dC dI H.size (2 * c2) (2 * a + 1) (by omega) (by omega)) (va_cwS 2 hT (gS w777 w778 w11 w779) rfl rfl rfl (by decide +kernel) ⟨(Nat.le_of_ble_eq_true rfl), (Nat.le_of_ble_eq_true rfl)⟩) ⟨pcW.blind, pcW.pre (va_P0 _ _ _) (hK.sub (tys' := []) [] rfl) (va_D0 (fun _ => True))⟩ rfl rfl hl.1 rfl (lv_room (Nat.le_of_ble_eq_true rfl)) dX9_open_40 ⟨(Nat.le_of_ble_eq_true rfl), (Nat.le_of_ble_eq_true rfl)⟩)) (fun r_26 hr_26 => ?_)
  obtain rfl : r_26 = nI ((2 * c2) * 16 + (2 * a + 1)) := hr_26
  refine lv_lload_n hx hb dX9_open_43 rfl (lv_at hl 3 rfl) ?_
  refine pl_last hx hb hK hW hT_x_7.1 hS_x_7 (vp_in_nI (n := (2 * c2) * 16 + (2 * a + 1)) (N := 256) (by omega) (by omega)) dX9_open_44 (fun H locs f_28 S_27 ef_f_28 e1 hW => ?_)
  have hTy := hTy.u45 e1 hT_x_7 ⟨f_28, rfl⟩
  have hS_v := un e1 hT_v hT_x_7 (by decide) hS_v
  have hS_x_1 := un e1 hT_x_1 hT_x_7 (by decide) hS_x_1
  have hFr := uf hFr e1 hT_x_7 (by decide) (by decide)
  have hS_x_7 := us e1
  exact W.vret hx hb hr (fun t ht h9 => ⟨⟨S_27, rfl, ⟨hTy, hFr⟩, by rw [ht]; exact hW.1, va_K.moved h9.alike hK, hW.2.1⟩, hW.2.2.F ht⟩) hW.2.2.2.2 dX9_open_45

set_option maxHeartbeats 4000000 in
set_option maxRecDepth 100000 in
theorem s_search (l : Launch) (dC : Nat → ClassId) (dI : Nat → Nat → Nat) (cy : Nat → ClassId) (L : List Nat) (kap : Nat → Nat) (pr : Pr) (S : Nat → va_E) (sz : Nat) (v : Nat) (hTy : Ty cy L kap pr S) (hT_v : TK L kap v 9) : Met l yX9_search (wT yX9_search cX9_search 5 (some .int)) ({ frames := 1, cells := 0, slots := 0, locals := 23 }) (pcN dC dI [.ref v] sz (va_pl L S) (cyT cy) NLs []) (va_Qi (fun r S' => Ty cy L kap pr S' ∧ Fr kap [37, 38] S S' ∧ (r = -1 ∨ ∃ k, k < 16 ∧ r = nI k)) (fun S' t => pB dC dI (AL L sz) (va_pl L S') (cyT cy) t) (AL L sz)) 0 0 (AL L sz) := by
  refine Met.ofW (cc := cX9_search) (maxL := 5) (ret := (some .int)) (by decide) rfl ?_
  intro p e s m args below meth c s₁ B hml hv
  obtain ⟨rfl, hsz, hP, hK, hD0, hN, -⟩ := hv
  have hx := B.exec
  have hb := B.bytes
  have hr := B.returns
  have hT : ∀ wd ∈ TB, wd.before [.ref v].toArray s = true := fun wd h => atoms_spec (ws := wT yX9_search cX9_search 5 (some .int)) B.pre wd (List.mem_cons_of_mem _ h)
  have hown : s.vm.findClass RX9 = some m.cls := findClass_of_methodNamed B.named
  have hlocks := B.notSynchronized
  subst hsz
  have hW : PW dC dI L (AL L s.heap.size) s.heap S s.heap [] := ⟨hP, pl_self hD0, va_S.rf⟩
  have hA0 : ∀ q, q ∈ L → AL L s.heap.size q := fun _ h => Or.inl h
  have hA : ∀ q, s.heap.size ≤ q → AL L s.heap.size q := fun _ h => Or.inr h
  have hFr : Fr kap [37, 38] S S := Fr.rf
  have hl := lv_entry ([.ref v]) (n := 5) (Nat.le_of_ble_eq_true rfl)
  rw [lg_entry_eq]
  generalize (lg_sl ([.ref v]) ++ List.replicate (5 - (lg_sl ([.ref v])).length) Slot.unset).toArray = ls at hl ⊢
  have hl : lv_has ls 5 [(0, .ref v)] := hl
  refine lv_iconst (v := 0) hx hb dX9_search_0 (by decide) ?_
  refine lv_istore_n (lv' := [(1, .int 0), (0, .ref v)]) hx hb dX9_search_1 rfl hl (by decide) rfl (fun ls hl => ?_)
  refine lv_iconst (v := 0) hx hb dX9_search_2 (by decide) ?_
  refine lv_istore_n (lv' := [(2, .int 0), (1, .int 0), (0, .ref v)]) hx hb dX9_search_3 rfl hl (by decide) rfl (fun ls hl => ?_)
  have loop : ∀ (fuel : Nat) (i : Nat) (q : Nat) (SS : Nat → va_E) (H : Heap) (locs : List Loc) (ls : Array Slot), 17 - i < fuel → (i ≤ 16) → (q ≤ 16) → (q ≤ i) → Ty cy L kap pr SS → Fr kap [37, 38] S SS → Fr kap [37, 38] S SS → PW dC dI L (AL L s.heap.size) s.heap SS H locs → lv_has ls 5 [(2, .int (nI i)), (1, .int (nI q)), (0, .ref v)] → W p l e (headSpec (wT yX9_search cX9_search 5 (some .int)) { frames := 1, cells := 0, slots := 0, locals := 23 }).room s m [.ref v].toArray below meth c H locs 0 0 (MQ below (va_Qi (fun r S' => Ty cy L kap pr S' ∧ Fr kap [37, 38] S S' ∧ (r = -1 ∨ ∃ k, k < 16 ∧ r = nI k)) (fun S' t => pB dC dI (AL L s.heap.size) (va_pl L S') (cyT cy) t) (AL L s.heap.size)) [.ref v].toArray s 0 0 (AL L s.heap.size)) (F0 m 4 ls []) := by
    intro fuel
    induction fuel with
    | zero => intro i q SS H locs ls h; exact absurd h (Nat.not_lt_zero _)
    | succ fu4 ih4 =>
      intro i q S_1 H locs ls hm4 hb_i hb_q hqi hTy hFr hFl4 hW hl
      refine lv_iload_n hx hb dX9_search_4 rfl (lv_at hl 0 rfl) ?_
      refine lv_aload_n hx hb dX9_search_5 rfl (lv_at hl 2 rfl) ?_
      obtain ⟨x_2, x_3, x_4, x_5, x_6, x_7, x_8, x_9, x_10, x_11, x_12, x_13, x_14, hS_v, hT_x_2, hT_x_3, hT_x_6, hT_x_7, hT_x_8, hT_x_9, hT_x_10, hT_x_11, hT_x_12, hb_x_13, hb_x_14⟩ := hTy.k9 hT_v
      refine pl_get (ci := 9) (v := .int (nI x_14)) (C := RX9) (T := TX9) (N := 13) hx hb hT iX9 hown hK hW hT_v.1 hS_v rfl 12 (by decide) w279 rfl dX9_search_6 ?_
      refine lv_icmp_ge (tgt := 54) hx hb dX9_search_9 (by decide) (fun c_9 => ?_) (fun c_9 => ?_)
      · have c_9 : x_14 ≤ i := (nI_leI (a := x_14) (b := i) (by omega) (by omega)).mp c_9
        refine lv_iconst (v := 0) hx hb dX9_search_54 (by decide) ?_
        refine lv_istore_n (lv' := [(2, .int 0), (1, .int (nI q)), (0, .ref v)]) hx hb dX9_search_55 rfl hl (by decide) rfl (fun ls hl => ?_)
        have loop : ∀ (fuel : Nat) (h : Nat) (q : Nat) (SS : Nat → va_E) (H : Heap) (locs : List Loc) (ls : Array Slot), 17 - h < fuel → (h ≤ 16) → (q ≤ 16) → Ty cy L kap pr SS → Fr kap [37, 38] S SS → Fr kap [37, 38] S_1 SS → PW dC dI L (AL L s.heap.size) s.heap SS H locs → lv_has ls 5 [(2, .int (nI h)), (1, .int (nI q)), (0, .ref v)] → W p l e (headSpec (wT yX9_search cX9_search 5 (some .int)) { frames := 1, cells := 0, slots := 0, locals := 23 }).room s m [.ref v].toArray below meth c H locs 0 0 (MQ below (va_Qi (fun r S' => Ty cy L kap pr S' ∧ Fr kap [37, 38] S S' ∧ (r = -1 ∨ ∃ k, k < 16 ∧ r = nI k)) (fun S' t => pB dC dI (AL L s.heap.size) (va_pl L S') (cyT cy) t) (AL L s.heap.size)) [.ref v].toArray s 0 0 (AL L s.heap.size)) (F0 m 56 ls []) := by
          intro fuel
          induction fuel with
          | zero => intro h q SS H locs ls h; exact absurd h (Nat.not_lt_zero _)
          | succ fu56 ih56 =>
            intro h q S_15 H locs ls hm56 hb_h hb_q hTy hFr hFl56 hW hl
            have hS_v := hFl56.at hT_v (by decide) hS_v
            have hFl4 := hFl4.tr hFl56 (by decide)
            refine lv_iload_n hx hb dX9_search_56 rfl (lv_at hl 0 rfl) ?_
            refine lv_iload_n hx hb dX9_search_57 rfl (lv_at hl 1 rfl) ?_
            refine lv_icmp_ge (tgt := 180) hx hb dX9_search_58 (by decide) (fun c_58 => ?_) (fun c_58 => ?_)
            · have c_58 : q ≤ h := (nI_leI (a := q) (b := h) (by omega) (by omega)).mp c_58
              refine lv_iconst (v := (-1)) hx hb dX9_search_180 (by decide) ?_
              exact W.iret (v := (-1)) hx hb hr (fun t ht h9 => ⟨⟨(-1), S_15, rfl, ⟨hTy, hFr, Or.inl rfl⟩, by rw [ht]; exact hW.1, va_K.moved h9.alike hK, hW.2.1⟩, hW.2.2.F ht⟩) hW.2.2.2.2 dX9_search_181
            · have c_58 : ¬ (q ≤ h) := fun hh9 => c_58 ((nI_leI (a := q) (b := h) (by omega) (by omega)).mpr hh9)
              refine lv_iload_n hx hb dX9_search_61 rfl (lv_at hl 0 rfl) ?_
              refine lv_bipush (v := 16) hx hb dX9_search_62 (by decide) ?_
              refine lv_icmp_ge (tgt := 180) hx hb dX9_search_64 (by decide) (fun c_64 => ?_) (fun c_64 => ?_)
              · have c_64 : 16 ≤ h := (nI_leI (a := 16) (b := h) (by omega) (by omega)).mp c_64
                refine lv_iconst (v := (-1)) hx hb dX9_search_180 (by decide) ?_
                exact W.iret (v := (-1)) hx hb hr (fun t ht h9 => ⟨⟨(-1), S_15, rfl, ⟨hTy, hFr, Or.inl rfl⟩, by rw [ht]; exact hW.1, va_K.moved h9.alike hK, hW.2.1⟩, hW.2.2.F ht⟩) hW.2.2.2.2 dX9_search_181
              · have c_64 : ¬ (16 ≤ h) := fun hh9 => c_64 ((nI_leI (a := 16) (b := h) (by omega) (by omega)).mpr hh9)
                refine lv_aload_n hx hb dX9_search_67 rfl (lv_at hl 2 rfl) ?_
                refine pl_get (ci := 9) (v := .ref x_12) (C := RX9) (T := TX9) (N := 13) hx hb hT iX9 hown hK hW hT_v.1 hS_v rfl 10 (by decide) w277 rfl dX9_search_68 ?_
                refine lv_iload_n hx hb dX9_search_71 rfl (lv_at hl 0 rfl) ?_
                obtain ⟨f_16, hS_x_12, hi_f_16⟩ := hTy.k38 hT_x_12
                refine pl_iald hx hb hK hW hT_x_12.1 hS_x_12 (vp_in_nI (n := h) (N := 16) (by omega) (by omega)) dX9_search_72 ?_
                refine lv_topi (fun y_17 ey_17 => ?_)
                obtain ⟨k_18, hb_k_18, hq_k_18⟩ := hi_f_16 (h) (by omega)
                obtain rfl : y_17 = nI k_18 := ey_17.trans (by show f_16 (nI (h)).toNatClampNeg = _; rw [nI_clamp (by omega)]; exact hq_k_18)
                refine lv_istore_n (lv' := [(3, .int (nI k_18)), (2, .int (nI h)), (1, .int (nI q)), (0, .ref v)]) hx hb dX9_search_73 rfl hl (by decide) rfl (fun ls hl => ?_)
                refine lv_iconst (v := 1) hx hb dX9_search_74 (by decide) ?_
                refine lv_iload_n hx hb dX9_search_75 rfl (lv_at hl 0 rfl) ?_
                refine lv_iconst (v := 1) hx hb dX9_search_76 (by decide) ?_
                refine lv_iand hx hb dX9_search_77 ?_
                refine lv_topi (fun z_19 ez_19 => ?_)
                obtain rfl : z_19 = nI (k_18 % 2) := ez_19.trans (pk_andN (n := k_18) (by omega) 1 (by decide))
                refine lv_isub hx hb dX9_search_78 ?_
                refine lv_topi (fun z_20 ez_20 => ?_)
                obtain rfl : z_20 = nI (1 - (k_18 % 2)) := ez_20.trans (pk_sub (a := 1) (b := k_18 % 2) (by omega))
                refine lv_istore (lv' := [(4, .int (nI (1 - (k_18 % 2)))), (3, .int (nI k_18)), (2, .int (nI h)), (1, .int (nI q)), (0, .ref v)]) hx hb dX9_search_79 hl (by decide) rfl (fun ls hl => ?_)
                have loop : ∀ (fuel : Nat) (j : Nat) (q2 : Nat) (SS : Nat → va_E) (H : Heap) (locs : List Loc) (ls : Array Slot), 18 - j < fuel → (j ≤ 17) → (q2 ≤ 16) → Ty cy L kap pr SS → Fr kap [37, 38] S SS → Fr kap [37, 38] S_15 SS → PW dC dI L (AL L s.heap.size) s.heap SS H locs → lv_has ls 5 [(4, .int (nI j)), (3, .int (nI k_18)), (2, .int (nI h)), (1, .int (nI q2)), (0, .ref v)] → W p l e (headSpec (wT yX9_search cX9_search 5 (some .int)) { frames := 1, cells := 0, slots := 0, locals := 23 }).room s m [.ref v].toArray below meth c H locs 0 0 (MQ below (va_Qi (fun r S' => Ty cy L kap pr S' ∧ Fr kap [37, 38] S S' ∧ (r = -1 ∨ ∃ k, k < 16 ∧ r = nI k)) (fun S' t => pB dC dI (AL L s.heap.size) (va_pl L S') (cyT cy) t) (AL L s.heap.size)) [.ref v].toArray s 0 0 (AL L s.heap.size)) (F0 m 81 ls []) := by
                  intro fuel
                  induction fuel with
                  | zero => intro j q2 SS H locs ls h; exact absurd h (Nat.not_lt_zero _)
                  | succ fu81 ih81 =>
                    intro j q2 S_21 H locs ls hm81 hb_j hb_q2 hTy hFr hFl81 hW hl
                    have hS_v := hFl81.at hT_v (by decide) hS_v
                    have hFl4 := hFl4.tr hFl81 (by decide)
                    have hFl56 := hFl56.tr hFl81 (by decide)
                    refine lv_iload hx hb dX9_search_81 (lv_at hl 0 rfl) ?_
                    refine lv_aload_n hx hb dX9_search_83 rfl (lv_at hl 4 rfl) ?_
                    refine pl_get (ci := 9) (v := .int (nI x_14)) (C := RX9) (T := TX9) (N := 13) hx hb hT iX9 hown hK hW hT_v.1 hS_v rfl 12 (by decide) w279 rfl dX9_search_84 ?_
                    refine lv_icmp_ge (tgt := 174) hx hb dX9_search_87 (by decide) (fun c_87 => ?_) (fun c_87 => ?_)
                    · have c_87 : x_14 ≤ j := (nI_leI (a := x_14) (b := j) (by omega) (by omega)).mp c_87
                      refine lv_iinc (v := nI (h + 1)) (lv' := [(2, .int (nI (h + 1))), (4, .int (nI j)), (3, .int (nI k_18)), (1, .int (nI q2)), (0, .ref v)]) hx hb dX9_search_174 hl (k := 2) rfl (nI_add (h) 1) (by decide) rfl (fun ls hl => ?_)
                      refine lv_goto (tgt := 56) hx hb dX9_search_177 (by decide) ?_
                      exact ih56 (h + 1) q2 _ _ _ ls (by omega) (by omega) (by omega) hTy hFr hFl56 hW (lv_sub hl [0, 3, 4] rfl)
                    · have c_87 : ¬ (x_14 ≤ j) := fun hh9 => c_87 ((nI_leI (a := x_14) (b := j) (by omega) (by omega)).mpr hh9)
                      refine lv_iload_n hx hb dX9_search_90 rfl (lv_at hl 3 rfl) ?_
                      refine lv_bipush (v := 16) hx hb dX9_search_91 (by decide) ?_
                      refine lv_icmp_ge (tgt := 168) hx hb dX9_search_93 (by decide) (fun c_93 => ?_) (fun c_93 => ?_)
                      · have c_93 : 16 ≤ q2 := (nI_leI (a := 16) (b := q2) (by omega) (by omega)).mp c_93
                        refine lv_iinc (v := nI (j + 2)) (lv' := [(4, .int (nI (j + 2))), (3, .int (nI k_18)), (2, .int (nI h)), (1, .int (nI q2)), (0, .ref v)]) hx hb dX9_search_168 hl (k := 0) rfl (nI_add (j) 2) (by decide) rfl (fun ls hl => ?_)
                        refine lv_goto (tgt := 81) hx hb dX9_search_171 (by decide) ?_
                        exact ih81 (j + 2) q2 _ _ _ ls (by omega) (by omega) (by omega) hTy hFr hFl81 hW (lv_sub hl [0, 1, 2, 3, 4] rfl)
                      · have c_93 : ¬ (16 ≤ q2) := fun hh9 => c_93 ((nI_leI (a := 16) (b := q2) (by omega) (by omega)).mpr hh9)
                        refine lv_aload_n hx hb dX9_search_96 rfl (lv_at hl 4 rfl) ?_
                        refine pl_get (ci := 9) (v := .ref x_11) (C := RX9) (T := TX9) (N := 13) hx hb hT iX9 hown hK hW hT_v.1 hS_v rfl 9 (by decide) w276 rfl dX9_search_97 ?_
                        refine lv_iload hx hb dX9_search_100 (lv_at hl 0 rfl) ?_
                        obtain ⟨f_22, hS_x_11, hi_f_22⟩ := hTy.k37 hT_x_11
                        refine pl_iald hx hb hK hW hT_x_11.1 hS_x_11 (vp_in_nI (n := j) (N := 16) (by omega) (by omega)) dX9_search_102 ?_
                        refine lv_topi (fun y_23 ey_23 => ?_)
                        have hv_y_23 := hi_f_22 (j) (by omega)
                        rw [show f_22 (j) = y_23 from (ey_23.trans (by show f_22 (nI (j)).toNatClampNeg = _; rw [nI_clamp (by omega)])).symm] at hv_y_23
                        refine lv_bipush (v := (-2)) hx hb dX9_search_103 (by decide) ?_
                        refine lv_icmp_ne (tgt := 168) hx hb dX9_search_105 (by decide) (fun c_105 => ?_) (fun c_105 => ?_)
                        · refine lv_iinc (v := nI (j + 2)) (lv' := [(4, .int (nI (j + 2))), (3, .int (nI k_18)), (2, .int (nI h)), (1, .int (nI q2)), (0, .ref v)]) hx hb dX9_search_168 hl (k := 0) rfl (nI_add (j) 2) (by decide) rfl (fun ls hl => ?_)
                          refine lv_goto (tgt := 81) hx hb dX9_search_171 (by decide) ?_
                          exact ih81 (j + 2) q2 _ _ _ ls (by omega) (by omega) (by omega) hTy hFr hFl81 hW (lv_sub hl [0, 1, 2, 3, 4] rfl)
                        · refine lv_aload_n hx hb dX9_search_108 rfl (lv_at hl 4 rfl) ?_
                          refine pl_get (ci := 9) (v := .ref x_8) (C := RX9) (T := TX9) (N := 13) hx hb hT iX9 hown hK hW hT_v.1 hS_v rfl 6 (by decide) w273 rfl dX9_search_109 ?_
                          refine lv_iload_n hx hb dX9_search_112 rfl (lv_at hl 1 rfl) ?_
                          refine lv_iload hx hb dX9_search_113 (lv_at hl 0 rfl) ?_
                          refine vp_callSi (va_Run.run (va_runS (As := [.int (nI k_18), .int (nI j)]) (rest := [.ref x_8]) ⟨hx, hb, hml, hown, hT⟩ (s_step l dC dI H.size k_18 j (by omega) (by omega)) (va_cwS 2 hT (gS w777 w778 w11 w779) rfl rfl rfl (by decide +kernel) ⟨(Nat.le_of_ble_eq_true rfl), (Nat.le_of_ble_eq_true rfl)⟩) ⟨pcW.blind, pcW.pre (va_P0 _ _ _) (hK.sub (tys' := []) [] rfl) (va_D0 (fun _ => True))⟩ rfl rfl hl.1 rfl (lv_room (Nat.le_of_ble_eq_true rfl)) dX9_search_115 ⟨(Nat.le_of_ble_eq_true rfl), (Nat.le_of_ble_eq_true rfl)⟩)) (fun r_24 hr_24 => ?_)
                          obtain rfl : r_24 = nI (k_18 * 16 + j) := hr_24
                          obtain ⟨f_25, hS_x_8⟩ := hTy.k45 hT_x_8
                          refine pl_lald hx hb hK hW hT_x_8.1 hS_x_8 (vp_in_nI (n := k_18 * 16 + j) (N := 256) (by omega) (by omega)) dX9_search_118 ?_
                          refine lv_topl (fun y_26 ey_26 => ?_)
                          refine lv_lconst (v := 0) hx hb dX9_search_119 (by decide) ?_
                          refine W.lcmp hx hb dX9_search_120 ?_
                          refine lv_if_le (tgt := 168) hx hb dX9_search_121 (by decide) (fun c_121 => ?_) (fun c_121 => ?_)
                          · refine lv_iinc (v := nI (j + 2)) (lv' := [(4, .int (nI (j + 2))), (3, .int (nI k_18)), (2, .int (nI h)), (1, .int (nI q2)), (0, .ref v)]) hx hb dX9_search_168 hl (k := 0) rfl (nI_add (j) 2) (by decide) rfl (fun ls hl => ?_)
                            refine lv_goto (tgt := 81) hx hb dX9_search_171 (by decide) ?_
                            exact ih81 (j + 2) q2 _ _ _ ls (by omega) (by omega) (by omega) hTy hFr hFl81 hW (lv_sub hl [0, 1, 2, 3, 4] rfl)
                          · refine lv_aload_n hx hb dX9_search_124 rfl (lv_at hl 4 rfl) ?_
                            refine lv_iload_n hx hb dX9_search_125 rfl (lv_at hl 1 rfl) ?_
                            refine lv_iload hx hb dX9_search_126 (lv_at hl 0 rfl) ?_
                            refine vp_callSi (va_Run.run (va_runV (As := [.int (nI k_18), .int (nI j)]) (rest := []) ⟨hx, hb, hml, hown, hT⟩ (s_price l dC dI cy L kap pr S_21 H.size v k_18 j hTy hT_v (by omega) (by omega)) (cwV 2 hT (gV w797 w799 ws39 w11 w800) rfl rfl rfl (by decide +kernel) ⟨(Nat.le_of_ble_eq_true rfl), (Nat.le_of_ble_eq_true rfl)⟩) ⟨pcN.blind, pl_recv hK hW hT_v.1 hS_v rfl, pcN.pre hW.1 hK hW.2.1 hN (fun q h => absurd h List.not_mem_nil)⟩ rfl rfl hl.1 rfl (lv_room (Nat.le_of_ble_eq_true rfl)) dX9_search_128 ⟨(Nat.le_of_ble_eq_true rfl), (Nat.le_of_ble_eq_true rfl)⟩)) (fun r_27 hr_27 => ?_)
                            refine lv_if_ne (tgt := 168) hx hb dX9_search_131 (by decide) (fun c_131 => ?_) (fun c_131 => ?_)
                            · refine lv_iinc (v := nI (j + 2)) (lv' := [(4, .int (nI (j + 2))), (3, .int (nI k_18)), (2, .int (nI h)), (1, .int (nI q2)), (0, .ref v)]) hx hb dX9_search_168 hl (k := 0) rfl (nI_add (j) 2) (by decide) rfl (fun ls hl => ?_)
                              refine lv_goto (tgt := 81) hx hb dX9_search_171 (by decide) ?_
                              exact ih81 (j + 2) q2 _ _ _ ls (by omega) (by omega) (by omega) hTy hFr hFl81 hW (lv_sub hl [0, 1, 2, 3, 4] rfl)
                            · refine lv_aload_n hx hb dX9_search_134 rfl (lv_at hl 4 rfl) ?_
                              refine pl_get (ci := 9) (v := .ref x_11) (C := RX9) (T := TX9) (N := 13) hx hb hT iX9 hown hK hW hT_v.1 hS_v rfl 9 (by decide) w276 rfl dX9_search_135 ?_
                              refine lv_iload hx hb dX9_search_138 (lv_at hl 0 rfl) ?_
                              refine lv_iload_n hx hb dX9_search_140 rfl (lv_at hl 1 rfl) ?_
                              refine pl_iast hx hb hK hW hT_x_11.1 hS_x_11 (vp_in_nI (n := j) (N := 16) (by omega) (by omega)) dX9_search_141 (fun H locs f_29 S_28 ef_f_29 e1 hW => ?_)
                              have hi_f_29 := inv37 hi_f_22 ef_f_29 (Or.inr (Or.inr ⟨k_18, by omega, rfl⟩))
                              have hTy := hTy.u37 e1 hT_x_11 ⟨f_29, rfl, hi_f_29⟩
                              have hS_v := un e1 hT_v hT_x_11 (by decide) hS_v
                              have hS_x_8 := un e1 hT_x_8 hT_x_11 (by decide) hS_x_8
                              have hFr := uf hFr e1 hT_x_11 (by decide) (by decide)
                              have hFl4 := uf hFl4 e1 hT_x_11 (by decide) (by decide)
                              have hFl56 := uf hFl56 e1 hT_x_11 (by decide) (by decide)
                              have hFl81 := uf hFl81 e1 hT_x_11 (by decide) (by decide)
                              have hS_x_11 := us e1
                              refine lv_aload_n hx hb dX9_search_142 rfl (lv_at hl 4 rfl) ?_
                              refine pl_get (ci := 9) (v := .ref x_10) (C := RX9) (T := TX9) (N := 13) hx hb hT iX9 hown hK hW hT_v.1 hS_v rfl 8 (by decide) w275 rfl dX9_search_143 ?_
                              refine lv_iload hx hb dX9_search_146 (lv_at hl 0 rfl) ?_
                              obtain ⟨f_30, hS_x_10⟩ := hTy.k36 hT_x_10
                              refine pl_lald hx hb hK hW hT_x_10.1 hS_x_10 (vp_in_nI (n := j) (N := 16) (by omega) (by omega)) dX9_search_148 ?_
                              refine lv_topl (fun y_31 ey_31 => ?_)
                              refine lv_lconst (v := 0) hx hb dX9_search_149 (by decide) ?_
                              refine W.lcmp hx hb dX9_search_150 ?_
                              refine lv_if_ge (tgt := 157) hx hb dX9_search_151 (by decide) (fun c_151 => ?_) (fun c_151 => ?_)
                              · refine lv_aload_n hx hb dX9_search_157 rfl (lv_at hl 4 rfl) ?_
                                refine pl_get (ci := 9) (v := .ref x_12) (C := RX9) (T := TX9) (N := 13) hx hb hT iX9 hown hK hW hT_v.1 hS_v rfl 10 (by decide) w277 rfl dX9_search_158 ?_
                                refine lv_iload_n hx hb dX9_search_161 rfl (lv_at hl 3 rfl) ?_
                                refine lv_iload hx hb dX9_search_162 (lv_at hl 0 rfl) ?_
                                obtain ⟨f_32, hS_x_12, hi_f_32⟩ := hTy.k38 hT_x_12
                                refine pl_iast hx hb hK hW hT_x_12.1 hS_x_12 (vp_in_nI (n := q2) (N := 16) (by omega) (by omega)) dX9_search_164 (fun H locs f_34 S_33 ef_f_34 e1 hW => ?_)
                                have hi_f_34 := inv_up hi_f_32 ef_f_34 ⟨j, by omega, rfl⟩
                                have hTy := hTy.u38 e1 hT_x_12 ⟨f_34, rfl, hi_f_34⟩
                                have hS_v := un e1 hT_v hT_x_12 (by decide) hS_v
                                have hS_x_11 := un e1 hT_x_11 hT_x_12 (by decide) hS_x_11
                                have hS_x_8 := un e1 hT_x_8 hT_x_12 (by decide) hS_x_8
                                have hS_x_10 := un e1 hT_x_10 hT_x_12 (by decide) hS_x_10
                                have hFr := uf hFr e1 hT_x_12 (by decide) (by decide)
                                have hFl4 := uf hFl4 e1 hT_x_12 (by decide) (by decide)
                                have hFl56 := uf hFl56 e1 hT_x_12 (by decide) (by decide)
                                have hFl81 := uf hFl81 e1 hT_x_12 (by decide) (by decide)
                                have hS_x_12 := us e1
                                refine lv_iinc (v := nI (q2 + 1)) (lv' := [(1, .int (nI (q2 + 1))), (4, .int (nI j)), (3, .int (nI k_18)), (2, .int (nI h)), (0, .ref v)]) hx hb dX9_search_165 hl (k := 3) rfl (nI_add (q2) 1) (by decide) rfl (fun ls hl => ?_)
                                refine lv_iinc (v := nI (j + 2)) (lv' := [(4, .int (nI (j + 2))), (1, .int (nI (q2 + 1))), (3, .int (nI k_18)), (2, .int (nI h)), (0, .ref v)]) hx hb dX9_search_168 hl (k := 1) rfl (nI_add (j) 2) (by decide) rfl (fun ls hl => ?_)
                                refine lv_goto (tgt := 81) hx hb dX9_search_171 (by decide) ?_
                                exact ih81 (j + 2) (q2 + 1) _ _ _ ls (by omega) (by omega) (by omega) hTy hFr hFl81 hW (lv_sub hl [0, 2, 3, 1, 4] rfl)
                              · refine lv_iload hx hb dX9_search_154 (lv_at hl 0 rfl) ?_
                                exact W.iret (v := nI j) hx hb hr (fun t ht h9 => ⟨⟨nI j, S_28, rfl, ⟨hTy, hFr, Or.inr ⟨j, by omega, rfl⟩⟩, by rw [ht]; exact hW.1, va_K.moved h9.alike hK, hW.2.1⟩, hW.2.2.F ht⟩) hW.2.2.2.2 dX9_search_156
                exact loop ((18 - (1 - (k_18 % 2))) + 1) (1 - (k_18 % 2)) q _ _ _ ls (Nat.lt_succ_self _) (by omega) (by omega) hTy hFr Fr.rf hW (lv_sub hl [0, 1, 2, 3, 4] rfl)
        exact loop ((17 - 0) + 1) 0 q _ _ _ ls (Nat.lt_succ_self _) (by omega) (by omega) hTy hFr Fr.rf hW (lv_sub hl [0, 1, 2] rfl)
      · have c_9 : ¬ (x_14 ≤ i) := fun hh9 => c_9 ((nI_leI (a := x_14) (b := i) (by omega) (by omega)).mpr hh9)
        refine lv_aload_n hx hb dX9_search_12 rfl (lv_at hl 2 rfl) ?_
        refine pl_get (ci := 9) (v := .ref x_11) (C := RX9) (T := TX9) (N := 13) hx hb hT iX9 hown hK hW hT_v.1 hS_v rfl 9 (by decide) w276 rfl dX9_search_13 ?_
        refine lv_iload_n hx hb dX9_search_16 rfl (lv_at hl 0 rfl) ?_
        refine lv_bipush (v := (-2)) hx hb dX9_search_17 (by decide) ?_
        obtain ⟨f_35, hS_x_11, hi_f_35⟩ := hTy.k37 hT_x_11
        refine pl_iast hx hb hK hW hT_x_11.1 hS_x_11 (vp_in_nI (n := i) (N := 16) (by omega) (by omega)) dX9_search_19 (fun H locs f_37 S_36 ef_f_37 e1 hW => ?_)
        have hi_f_37 := inv37 hi_f_35 ef_f_37 (Or.inl rfl)
        have hTy := hTy.u37 e1 hT_x_11 ⟨f_37, rfl, hi_f_37⟩
        have hS_v := un e1 hT_v hT_x_11 (by decide) hS_v
        have hFr := uf hFr e1 hT_x_11 (by decide) (by decide)
        have hFl4 := uf hFl4 e1 hT_x_11 (by decide) (by decide)
        have hS_x_11 := us e1
        refine lv_aload_n hx hb dX9_search_20 rfl (lv_at hl 2 rfl) ?_
        refine pl_get (ci := 9) (v := .ref x_10) (C := RX9) (T := TX9) (N := 13) hx hb hT iX9 hown hK hW hT_v.1 hS_v rfl 8 (by decide) w275 rfl dX9_search_21 ?_
        refine lv_iload_n hx hb dX9_search_24 rfl (lv_at hl 0 rfl) ?_
        obtain ⟨f_38, hS_x_10⟩ := hTy.k36 hT_x_10
        refine pl_lald hx hb hK hW hT_x_10.1 hS_x_10 (vp_in_nI (n := i) (N := 16) (by omega) (by omega)) dX9_search_25 ?_
        refine lv_topl (fun y_39 ey_39 => ?_)
        refine lv_lconst (v := 0) hx hb dX9_search_26 (by decide) ?_
        refine W.lcmp hx hb dX9_search_27 ?_
        refine lv_if_le (tgt := 48) hx hb dX9_search_28 (by decide) (fun c_28 => ?_) (fun c_28 => ?_)
        · refine lv_iinc (v := nI (i + 1)) (lv' := [(2, .int (nI (i + 1))), (1, .int (nI q)), (0, .ref v)]) hx hb dX9_search_48 hl (k := 0) rfl (nI_add (i) 1) (by decide) rfl (fun ls hl => ?_)
          refine lv_goto (tgt := 4) hx hb dX9_search_51 (by decide) ?_
          exact ih4 (i + 1) q _ _ _ ls (by omega) (by omega) (by omega) (by omega) hTy hFr hFl4 hW (lv_sub hl [0, 1, 2] rfl)
        · refine lv_aload_n hx hb dX9_search_31 rfl (lv_at hl 2 rfl) ?_
          refine pl_get (ci := 9) (v := .ref x_11) (C := RX9) (T := TX9) (N := 13) hx hb hT iX9 hown hK hW hT_v.1 hS_v rfl 9 (by decide) w276 rfl dX9_search_32 ?_
          refine lv_iload_n hx hb dX9_search_35 rfl (lv_at hl 0 rfl) ?_
          refine lv_iconst (v := (-1)) hx hb dX9_search_36 (by decide) ?_
          refine pl_iast hx hb hK hW hT_x_11.1 hS_x_11 (vp_in_nI (n := i) (N := 16) (by omega) (by omega)) dX9_search_37 (fun H locs f_41 S_40 ef_f_41 e1 hW => ?_)
          have hi_f_41 := inv37 hi_f_37 ef_f_41 (Or.inr (Or.inl rfl))
          have hTy := hTy.u37 e1 hT_x_11 ⟨f_41, rfl, hi_f_41⟩
          have hS_v := un e1 hT_v hT_x_11 (by decide) hS_v
          have hS_x_10 := un e1 hT_x_10 hT_x_11 (by decide) hS_x_10
          have hFr := uf hFr e1 hT_x_11 (by decide) (by decide)
          have hFl4 := uf hFl4 e1 hT_x_11 (by decide) (by decide)
          have hS_x_11 := us e1
          refine lv_aload_n hx hb dX9_search_38 rfl (lv_at hl 2 rfl) ?_
          refine pl_get (ci := 9) (v := .ref x_12) (C := RX9) (T := TX9) (N := 13) hx hb hT iX9 hown hK hW hT_v.1 hS_v rfl 10 (by decide) w277 rfl dX9_search_39 ?_
          refine lv_iload_n hx hb dX9_search_42 rfl (lv_at hl 1 rfl) ?_
          refine lv_iload_n hx hb dX9_search_43 rfl (lv_at hl 0 rfl) ?_
          obtain ⟨f_42, hS_x_12, hi_f_42⟩ := hTy.k38 hT_x_12
          refine pl_iast hx hb hK hW hT_x_12.1 hS_x_12 (vp_in_nI (n := q) (N := 16) (by omega) (by omega)) dX9_search_44 (fun H locs f_44 S_43 ef_f_44 e1 hW => ?_)
          have hi_f_44 := inv_up hi_f_42 ef_f_44 ⟨i, by omega, rfl⟩
          have hTy := hTy.u38 e1 hT_x_12 ⟨f_44, rfl, hi_f_44⟩
          have hS_v := un e1 hT_v hT_x_12 (by decide) hS_v
          have hS_x_11 := un e1 hT_x_11 hT_x_12 (by decide) hS_x_11
          have hS_x_10 := un e1 hT_x_10 hT_x_12 (by decide) hS_x_10
          have hFr := uf hFr e1 hT_x_12 (by decide) (by decide)
          have hFl4 := uf hFl4 e1 hT_x_12 (by decide) (by decide)
          have hS_x_12 := us e1
          refine lv_iinc (v := nI (q + 1)) (lv' := [(1, .int (nI (q + 1))), (2, .int (nI i)), (0, .ref v)]) hx hb dX9_search_45 hl (k := 1) rfl (nI_add (q) 1) (by decide) rfl (fun ls hl => ?_)
          refine lv_iinc (v := nI (i + 1)) (lv' := [(2, .int (nI (i + 1))), (1, .int (nI (q + 1))), (0, .ref v)]) hx hb dX9_search_48 hl (k := 1) rfl (nI_add (i) 1) (by decide) rfl (fun ls hl => ?_)
          refine lv_goto (tgt := 4) hx hb dX9_search_51 (by decide) ?_
          exact ih4 (i + 1) (q + 1) _ _ _ ls (by omega) (by omega) (by omega) (by omega) hTy hFr hFl4 hW (lv_sub hl [0, 1, 2] rfl)
  exact loop ((17 - 0) + 1) 0 0 _ _ _ ls (Nat.lt_succ_self _) (by omega) (by omega) (by omega) hTy hFr Fr.rf hW (lv_sub hl [0, 1, 2] rfl)

set_option maxHeartbeats 4000000 in
set_option maxRecDepth 100000 in
theorem s_carry (l : Launch) (dC : Nat → ClassId) (dI : Nat → Nat → Nat) (cy : Nat → ClassId) (L : List Nat) (kap : Nat → Nat) (pr : Pr) (S : Nat → va_E) (sz : Nat) (v : Nat) (g : Nat) (hTy : Ty cy L kap pr S) (hT_v : TK L kap v 9) (hb_g : g < 16) : Met l yX9_carry (wT yX9_carry cX9_carry 6 none) ({ frames := 1, cells := 0, slots := 0, locals := 40 }) (pcN dC dI [.ref v, .int (nI g)] sz (va_pl L S) (cyT cy) NLs []) (va_Qv (fun S' => Ty cy L kap pr S' ∧ Fr kap [36, 45] S S') (fun S' t => pB dC dI (AL L sz) (va_pl L S') (cyT cy) t) (AL L sz)) 0 0 (AL L sz) := by
  refine Met.ofW (cc := cX9_carry) (maxL := 6) (ret := none) (by decide) rfl ?_
  intro p e s m args below meth c s₁ B hml hv
  obtain ⟨rfl, hsz, hP, hK, hD0, hN, -⟩ := hv
  have hx := B.exec
  have hb := B.bytes
  have hr := B.returns
  have hT : ∀ wd ∈ TB, wd.before [.ref v, .int (nI g)].toArray s = true := fun wd h => atoms_spec (ws := wT yX9_carry cX9_carry 6 none) B.pre wd (List.mem_cons_of_mem _ h)
  have hown : s.vm.findClass RX9 = some m.cls := findClass_of_methodNamed B.named
  have hlocks := B.notSynchronized
  subst hsz
  have hW : PW dC dI L (AL L s.heap.size) s.heap S s.heap [] := ⟨hP, pl_self hD0, va_S.rf⟩
  have hA0 : ∀ q, q ∈ L → AL L s.heap.size q := fun _ h => Or.inl h
  have hA : ∀ q, s.heap.size ≤ q → AL L s.heap.size q := fun _ h => Or.inr h
  have hFr : Fr kap [36, 45] S S := Fr.rf
  have hl := lv_entry ([.ref v, .int (nI g)]) (n := 6) (Nat.le_of_ble_eq_true rfl)
  rw [lg_entry_eq]
  generalize (lg_sl ([.ref v, .int (nI g)]) ++ List.replicate (6 - (lg_sl ([.ref v, .int (nI g)])).length) Slot.unset).toArray = ls at hl ⊢
  have hl : lv_has ls 6 [(0, .ref v), (1, .int (nI g))] := hl
  refine lv_aload_n hx hb dX9_carry_0 rfl (lv_at hl 0 rfl) ?_
  obtain ⟨x_1, x_2, x_3, x_4, x_5, x_6, x_7, x_8, x_9, x_10, x_11, x_12, x_13, hS_v, hT_x_1, hT_x_2, hT_x_5, hT_x_6, hT_x_7, hT_x_8, hT_x_9, hT_x_10, hT_x_11, hb_x_12, hb_x_13⟩ := hTy.k9 hT_v
  refine pl_get (ci := 9) (v := .ref x_9) (C := RX9) (T := TX9) (N := 13) hx hb hT iX9 hown hK hW hT_v.1 hS_v rfl 8 (by decide) w275 rfl dX9_carry_1 ?_
  refine lv_iload_n hx hb dX9_carry_4 rfl (lv_at hl 1 rfl) ?_
  obtain ⟨f_14, hS_x_9⟩ := hTy.k36 hT_x_9
  refine pl_lald hx hb hK hW hT_x_9.1 hS_x_9 (vp_in_nI (n := g) (N := 16) (by omega) (by omega)) dX9_carry_5 ?_
  refine lv_topl (fun y_15 ey_15 => ?_)
  refine lv_lneg hx hb dX9_carry_6 ?_
  refine lv_topl (fun z_16 ez_16 => ?_)
  refine lv_lstore_n (lv' := [(2, .long z_16), (0, .ref v), (1, .int (nI g))]) hx hb dX9_carry_7 rfl hl (by decide) rfl (fun ls hl => ?_)
  refine lv_iload_n hx hb dX9_carry_8 rfl (lv_at hl 2 rfl) ?_
  refine lv_istore (lv' := [(4, .int (nI g)), (2, .long z_16), (0, .ref v), (1, .int (nI g))]) hx hb dX9_carry_9 hl (by decide) rfl (fun ls hl => ?_)
  refine lv_iconst (v := 0) hx hb dX9_carry_11 (by decide) ?_
  refine lv_istore (lv' := [(5, .int 0), (4, .int (nI g)), (2, .long z_16), (0, .ref v), (1, .int (nI g))]) hx hb dX9_carry_12 hl (by decide) rfl (fun ls hl => ?_)
  have loop : ∀ (fuel : Nat) (i : Nat) (d : Nat) (am : Int64) (SS : Nat → va_E) (H : Heap) (locs : List Loc) (ls : Array Slot), 17 - i < fuel → (i ≤ 16) → (d ≤ 15) → Ty cy L kap pr SS → Fr kap [36, 45] S SS → Fr kap [36, 45] S SS → PW dC dI L (AL L s.heap.size) s.heap SS H locs → lv_has ls 6 [(5, .int (nI i)), (4, .int (nI d)), (2, .long am), (0, .ref v), (1, .int (nI g))] → W p l e (headSpec (wT yX9_carry cX9_carry 6 none) { frames := 1, cells := 0, slots := 0, locals := 40 }).room s m [.ref v, .int (nI g)].toArray below meth c H locs 0 0 (MQ below (va_Qv (fun S' => Ty cy L kap pr S' ∧ Fr kap [36, 45] S S') (fun S' t => pB dC dI (AL L s.heap.size) (va_pl L S') (cyT cy) t) (AL L s.heap.size)) [.ref v, .int (nI g)].toArray s 0 0 (AL L s.heap.size)) (F0 m 14 ls []) := by
    intro fuel
    induction fuel with
    | zero => intro i d am SS H locs ls h; exact absurd h (Nat.not_lt_zero _)
    | succ fu14 ih14 =>
      intro i d am S_17 H locs ls hm14 hb_i hb_d hTy hFr hFl14 hW hl
      have hS_v := hFl14.at hT_v (by decide) hS_v
      refine lv_iload hx hb dX9_carry_14 (lv_at hl 0 rfl) ?_
      refine lv_bipush (v := 16) hx hb dX9_carry_16 (by decide) ?_
      refine lv_icmp_ge (tgt := 68) hx hb dX9_carry_18 (by decide) (fun c_18 => ?_) (fun c_18 => ?_)
      · have c_18 : 16 ≤ i := (nI_leI (a := 16) (b := i) (by omega) (by omega)).mp c_18
        refine lv_lload_n hx hb dX9_carry_68 rfl (lv_at hl 2 rfl) ?_
        refine lv_aload_n hx hb dX9_carry_69 rfl (lv_at hl 3 rfl) ?_
        refine pl_get (ci := 9) (v := .ref x_9) (C := RX9) (T := TX9) (N := 13) hx hb hT iX9 hown hK hW hT_v.1 hS_v rfl 8 (by decide) w275 rfl dX9_carry_70 ?_
        refine lv_iload hx hb dX9_carry_73 (lv_at hl 1 rfl) ?_
        obtain ⟨f_18, hS_x_9⟩ := hTy.k36 hT_x_9
        refine pl_lald hx hb hK hW hT_x_9.1 hS_x_9 (vp_in_nI (n := d) (N := 16) (by omega) (by omega)) dX9_carry_75 ?_
        refine lv_topl (fun y_19 ey_19 => ?_)
        refine va_mmin_long hx hb (hml.trans hl.1.symm) hown (hT _ w783) (hT _ w716) (hT _ w15) (hT _ w717) (Nat.le_of_ble_eq_true rfl) (Nat.le_of_ble_eq_true rfl) (Nat.le_of_ble_eq_true rfl) (Nat.le_of_ble_eq_true rfl) dX9_carry_76 ?_
        refine lv_topl (fun z_20 ez_20 => ?_)
        refine lv_lstore_n (lv' := [(2, .long z_20), (5, .int (nI i)), (4, .int (nI d)), (0, .ref v), (1, .int (nI g))]) hx hb dX9_carry_79 rfl hl (by decide) rfl (fun ls hl => ?_)
        refine lv_aload_n hx hb dX9_carry_80 rfl (lv_at hl 3 rfl) ?_
        refine pl_get (ci := 9) (v := .ref x_9) (C := RX9) (T := TX9) (N := 13) hx hb hT iX9 hown hK hW hT_v.1 hS_v rfl 8 (by decide) w275 rfl dX9_carry_81 ?_
        refine lv_iload hx hb dX9_carry_84 (lv_at hl 2 rfl) ?_
        refine lv_dup2_11 hx hb dX9_carry_86 rfl rfl ?_
        refine pl_lald hx hb hK hW hT_x_9.1 hS_x_9 (vp_in_nI (n := d) (N := 16) (by omega) (by omega)) dX9_carry_87 ?_
        refine lv_topl (fun y_21 ey_21 => ?_)
        refine lv_lload_n hx hb dX9_carry_88 rfl (lv_at hl 0 rfl) ?_
        refine lv_lsub hx hb dX9_carry_89 ?_
        refine lv_topl (fun z_22 ez_22 => ?_)
        refine pl_last hx hb hK hW hT_x_9.1 hS_x_9 (vp_in_nI (n := d) (N := 16) (by omega) (by omega)) dX9_carry_90 (fun H locs f_24 S_23 ef_f_24 e1 hW => ?_)
        have hTy := hTy.u36 e1 hT_x_9 ⟨f_24, rfl⟩
        have hS_v := un e1 hT_v hT_x_9 (by decide) hS_v
        have hFr := uf hFr e1 hT_x_9 (by decide) (by decide)
        have hFl14 := uf hFl14 e1 hT_x_9 (by decide) (by decide)
        have hS_x_9 := us e1
        refine lv_aload_n hx hb dX9_carry_91 rfl (lv_at hl 3 rfl) ?_
        refine pl_get (ci := 9) (v := .ref x_9) (C := RX9) (T := TX9) (N := 13) hx hb hT iX9 hown hK hW hT_v.1 hS_v rfl 8 (by decide) w275 rfl dX9_carry_92 ?_
        refine lv_iload_n hx hb dX9_carry_95 rfl (lv_at hl 4 rfl) ?_
        refine lv_dup2_11 hx hb dX9_carry_96 rfl rfl ?_
        refine pl_lald hx hb hK hW hT_x_9.1 hS_x_9 (vp_in_nI (n := g) (N := 16) (by omega) (by omega)) dX9_carry_97 ?_
        refine lv_topl (fun y_25 ey_25 => ?_)
        refine lv_lload_n hx hb dX9_carry_98 rfl (lv_at hl 0 rfl) ?_
        refine lv_ladd hx hb dX9_carry_99 ?_
        refine lv_topl (fun z_26 ez_26 => ?_)
        refine pl_last hx hb hK hW hT_x_9.1 hS_x_9 (vp_in_nI (n := g) (N := 16) (by omega) (by omega)) dX9_carry_100 (fun H locs f_28 S_27 ef_f_28 e1 hW => ?_)
        have hTy := hTy.u36 e1 hT_x_9 ⟨f_28, rfl⟩
        have hS_v := un e1 hT_v hT_x_9 (by decide) hS_v
        have hFr := uf hFr e1 hT_x_9 (by decide) (by decide)
        have hFl14 := uf hFl14 e1 hT_x_9 (by decide) (by decide)
        have hS_x_9 := us e1
        refine lv_iload_n hx hb dX9_carry_101 rfl (lv_at hl 4 rfl) ?_
        refine lv_istore (lv' := [(4, .int (nI g)), (2, .long z_20), (5, .int (nI i)), (0, .ref v), (1, .int (nI g))]) hx hb dX9_carry_102 hl (by decide) rfl (fun ls hl => ?_)
        refine lv_iconst (v := 0) hx hb dX9_carry_104 (by decide) ?_
        refine lv_istore (lv' := [(5, .int 0), (4, .int (nI g)), (2, .long z_20), (0, .ref v), (1, .int (nI g))]) hx hb dX9_carry_105 hl (by decide) rfl (fun ls hl => ?_)
        have loop : ∀ (fuel : Nat) (i2 : Nat) (d2 : Nat) (SS : Nat → va_E) (H : Heap) (locs : List Loc) (ls : Array Slot), 17 - i2 < fuel → (i2 ≤ 16) → (d2 ≤ 15) → Ty cy L kap pr SS → Fr kap [36, 45] S SS → Fr kap [45] S_27 SS → PW dC dI L (AL L s.heap.size) s.heap SS H locs → lv_has ls 6 [(5, .int (nI i2)), (4, .int (nI d2)), (2, .long z_20), (0, .ref v), (1, .int (nI g))] → W p l e (headSpec (wT yX9_carry cX9_carry 6 none) { frames := 1, cells := 0, slots := 0, locals := 40 }).room s m [.ref v, .int (nI g)].toArray below meth c H locs 0 0 (MQ below (va_Qv (fun S' => Ty cy L kap pr S' ∧ Fr kap [36, 45] S S') (fun S' t => pB dC dI (AL L s.heap.size) (va_pl L S') (cyT cy) t) (AL L s.heap.size)) [.ref v, .int (nI g)].toArray s 0 0 (AL L s.heap.size)) (F0 m 107 ls []) := by
          intro fuel
          induction fuel with
          | zero => intro i2 d2 SS H locs ls h; exact absurd h (Nat.not_lt_zero _)
          | succ fu107 ih107 =>
            intro i2 d2 S_29 H locs ls hm107 hb_i2 hb_d2 hTy hFr hFl107 hW hl
            have hS_v := hFl107.at hT_v (by decide) hS_v
            have hS_x_9 := hFl107.at hT_x_9 (by decide) hS_x_9
            have hFl14 := hFl14.tr hFl107 (by decide)
            refine lv_iload hx hb dX9_carry_107 (lv_at hl 0 rfl) ?_
            refine lv_bipush (v := 16) hx hb dX9_carry_109 (by decide) ?_
            refine lv_icmp_ge (tgt := 181) hx hb dX9_carry_111 (by decide) (fun c_111 => ?_) (fun c_111 => ?_)
            · have c_111 : 16 ≤ i2 := (nI_leI (a := 16) (b := i2) (by omega) (by omega)).mp c_111
              exact W.vret hx hb hr (fun t ht h9 => ⟨⟨S_29, rfl, ⟨hTy, hFr⟩, by rw [ht]; exact hW.1, va_K.moved h9.alike hK, hW.2.1⟩, hW.2.2.F ht⟩) hW.2.2.2.2 dX9_carry_181
            · have c_111 : ¬ (16 ≤ i2) := fun hh9 => c_111 ((nI_leI (a := 16) (b := i2) (by omega) (by omega)).mpr hh9)
              refine lv_aload_n hx hb dX9_carry_114 rfl (lv_at hl 3 rfl) ?_
              refine pl_get (ci := 9) (v := .ref x_10) (C := RX9) (T := TX9) (N := 13) hx hb hT iX9 hown hK hW hT_v.1 hS_v rfl 9 (by decide) w276 rfl dX9_carry_115 ?_
              refine lv_iload hx hb dX9_carry_118 (lv_at hl 1 rfl) ?_
              obtain ⟨f_30, hS_x_10, hi_f_30⟩ := hTy.k37 hT_x_10
              refine pl_iald hx hb hK hW hT_x_10.1 hS_x_10 (vp_in_nI (n := d2) (N := 16) (by omega) (by omega)) dX9_carry_120 ?_
              refine lv_topi (fun y_31 ey_31 => ?_)
              have hv_y_31 := hi_f_30 (d2) (by omega)
              rw [show f_30 (d2) = y_31 from (ey_31.trans (by show f_30 (nI (d2)).toNatClampNeg = _; rw [nI_clamp (by omega)])).symm] at hv_y_31
              refine lv_if_lt (tgt := 181) hx hb dX9_carry_121 (by decide) (fun c_121 => ?_) (fun c_121 => ?_)
              · skip
                exact W.vret hx hb hr (fun t ht h9 => ⟨⟨S_29, rfl, ⟨hTy, hFr⟩, by rw [ht]; exact hW.1, va_K.moved h9.alike hK, hW.2.1⟩, hW.2.2.F ht⟩) hW.2.2.2.2 dX9_carry_181
              · obtain ⟨j_32, hj_j_32, rfl⟩ := nI_of c_121
                have hv_j_32 := v16 (by omega) hv_y_31
                refine lv_aload_n hx hb dX9_carry_124 rfl (lv_at hl 3 rfl) ?_
                refine pl_get (ci := 9) (v := .ref x_7) (C := RX9) (T := TX9) (N := 13) hx hb hT iX9 hown hK hW hT_v.1 hS_v rfl 6 (by decide) w273 rfl dX9_carry_125 ?_
                refine lv_aload_n hx hb dX9_carry_128 rfl (lv_at hl 3 rfl) ?_
                refine pl_get (ci := 9) (v := .ref x_10) (C := RX9) (T := TX9) (N := 13) hx hb hT iX9 hown hK hW hT_v.1 hS_v rfl 9 (by decide) w276 rfl dX9_carry_129 ?_
                refine lv_iload hx hb dX9_carry_132 (lv_at hl 1 rfl) ?_
                refine pl_iald hx hb hK hW hT_x_10.1 hS_x_10 (vp_in_nI (n := d2) (N := 16) (by omega) (by omega)) dX9_carry_134 ?_
                refine lv_topi (fun y_33 ey_33 => ?_)
                obtain rfl : y_33 = nI j_32 := ey_33.trans ey_31.symm
                refine lv_iload hx hb dX9_carry_135 (lv_at hl 1 rfl) ?_
                refine vp_callSi (va_Run.run (va_runS (As := [.int (nI j_32), .int (nI d2)]) (rest := [.ref x_7]) ⟨hx, hb, hml, hown, hT⟩ (s_step l dC dI H.size j_32 d2 (by omega) (by omega)) (va_cwS 2 hT (gS w777 w778 w11 w779) rfl rfl rfl (by decide +kernel) ⟨(Nat.le_of_ble_eq_true rfl), (Nat.le_of_ble_eq_true rfl)⟩) ⟨pcW.blind, pcW.pre (va_P0 _ _ _) (hK.sub (tys' := []) [] rfl) (va_D0 (fun _ => True))⟩ rfl rfl hl.1 rfl (lv_room (Nat.le_of_ble_eq_true rfl)) dX9_carry_137 ⟨(Nat.le_of_ble_eq_true rfl), (Nat.le_of_ble_eq_true rfl)⟩)) (fun r_34 hr_34 => ?_)
                obtain rfl : r_34 = nI (j_32 * 16 + d2) := hr_34
                refine lv_dup2_11 hx hb dX9_carry_140 rfl rfl ?_
                obtain ⟨f_35, hS_x_7⟩ := hTy.k45 hT_x_7
                refine pl_lald hx hb hK hW hT_x_7.1 hS_x_7 (vp_in_nI (n := j_32 * 16 + d2) (N := 256) (by omega) (by omega)) dX9_carry_141 ?_
                refine lv_topl (fun y_36 ey_36 => ?_)
                refine lv_lload_n hx hb dX9_carry_142 rfl (lv_at hl 2 rfl) ?_
                refine lv_lsub hx hb dX9_carry_143 ?_
                refine lv_topl (fun z_37 ez_37 => ?_)
                refine pl_last hx hb hK hW hT_x_7.1 hS_x_7 (vp_in_nI (n := j_32 * 16 + d2) (N := 256) (by omega) (by omega)) dX9_carry_144 (fun H locs f_39 S_38 ef_f_39 e1 hW => ?_)
                have hTy := hTy.u45 e1 hT_x_7 ⟨f_39, rfl⟩
                have hS_v := un e1 hT_v hT_x_7 (by decide) hS_v
                have hS_x_9 := un e1 hT_x_9 hT_x_7 (by decide) hS_x_9
                have hS_x_10 := un e1 hT_x_10 hT_x_7 (by decide) hS_x_10
                have hFr := uf hFr e1 hT_x_7 (by decide) (by decide)
                have hFl14 := uf hFl14 e1 hT_x_7 (by decide) (by decide)
                have hFl107 := uf hFl107 e1 hT_x_7 (by decide) (by decide)
                have hS_x_7 := us e1
                refine lv_aload_n hx hb dX9_carry_145 rfl (lv_at hl 3 rfl) ?_
                refine pl_get (ci := 9) (v := .ref x_7) (C := RX9) (T := TX9) (N := 13) hx hb hT iX9 hown hK hW hT_v.1 hS_v rfl 6 (by decide) w273 rfl dX9_carry_146 ?_
                refine lv_iload hx hb dX9_carry_149 (lv_at hl 1 rfl) ?_
                refine lv_aload_n hx hb dX9_carry_151 rfl (lv_at hl 3 rfl) ?_
                refine pl_get (ci := 9) (v := .ref x_10) (C := RX9) (T := TX9) (N := 13) hx hb hT iX9 hown hK hW hT_v.1 hS_v rfl 9 (by decide) w276 rfl dX9_carry_152 ?_
                refine lv_iload hx hb dX9_carry_155 (lv_at hl 1 rfl) ?_
                refine pl_iald hx hb hK hW hT_x_10.1 hS_x_10 (vp_in_nI (n := d2) (N := 16) (by omega) (by omega)) dX9_carry_157 ?_
                refine lv_topi (fun y_40 ey_40 => ?_)
                obtain rfl : y_40 = nI j_32 := ey_40.trans ey_31.symm
                refine vp_callSi (va_Run.run (va_runS (As := [.int (nI d2), .int (nI j_32)]) (rest := [.ref x_7]) ⟨hx, hb, hml, hown, hT⟩ (s_step l dC dI H.size d2 j_32 (by omega) (by omega)) (va_cwS 2 hT (gS w777 w778 w11 w779) rfl rfl rfl (by decide +kernel) ⟨(Nat.le_of_ble_eq_true rfl), (Nat.le_of_ble_eq_true rfl)⟩) ⟨pcW.blind, pcW.pre (va_P0 _ _ _) (hK.sub (tys' := []) [] rfl) (va_D0 (fun _ => True))⟩ rfl rfl hl.1 rfl (lv_room (Nat.le_of_ble_eq_true rfl)) dX9_carry_158 ⟨(Nat.le_of_ble_eq_true rfl), (Nat.le_of_ble_eq_true rfl)⟩)) (fun r_41 hr_41 => ?_)
                obtain rfl : r_41 = nI (d2 * 16 + j_32) := hr_41
                refine lv_dup2_11 hx hb dX9_carry_161 rfl rfl ?_
                refine pl_lald hx hb hK hW hT_x_7.1 hS_x_7 (vp_in_nI (n := d2 * 16 + j_32) (N := 256) (by omega) (by omega)) dX9_carry_162 ?_
                refine lv_topl (fun y_42 ey_42 => ?_)
                refine lv_lload_n hx hb dX9_carry_163 rfl (lv_at hl 2 rfl) ?_
                refine lv_ladd hx hb dX9_carry_164 ?_
                refine lv_topl (fun z_43 ez_43 => ?_)
                refine pl_last hx hb hK hW hT_x_7.1 hS_x_7 (vp_in_nI (n := d2 * 16 + j_32) (N := 256) (by omega) (by omega)) dX9_carry_165 (fun H locs f_45 S_44 ef_f_45 e1 hW => ?_)
                have hTy := hTy.u45 e1 hT_x_7 ⟨f_45, rfl⟩
                have hS_v := un e1 hT_v hT_x_7 (by decide) hS_v
                have hS_x_9 := un e1 hT_x_9 hT_x_7 (by decide) hS_x_9
                have hS_x_10 := un e1 hT_x_10 hT_x_7 (by decide) hS_x_10
                have hFr := uf hFr e1 hT_x_7 (by decide) (by decide)
                have hFl14 := uf hFl14 e1 hT_x_7 (by decide) (by decide)
                have hFl107 := uf hFl107 e1 hT_x_7 (by decide) (by decide)
                have hS_x_7 := us e1
                refine lv_aload_n hx hb dX9_carry_166 rfl (lv_at hl 3 rfl) ?_
                refine pl_get (ci := 9) (v := .ref x_10) (C := RX9) (T := TX9) (N := 13) hx hb hT iX9 hown hK hW hT_v.1 hS_v rfl 9 (by decide) w276 rfl dX9_carry_167 ?_
                refine lv_iload hx hb dX9_carry_170 (lv_at hl 1 rfl) ?_
                refine pl_iald hx hb hK hW hT_x_10.1 hS_x_10 (vp_in_nI (n := d2) (N := 16) (by omega) (by omega)) dX9_carry_172 ?_
                refine lv_topi (fun y_46 ey_46 => ?_)
                obtain rfl : y_46 = nI j_32 := ey_46.trans ey_31.symm
                refine lv_istore (lv' := [(4, .int (nI j_32)), (5, .int (nI i2)), (2, .long z_20), (0, .ref v), (1, .int (nI g))]) hx hb dX9_carry_173 hl (by decide) rfl (fun ls hl => ?_)
                refine lv_iinc (v := nI (i2 + 1)) (lv' := [(5, .int (nI (i2 + 1))), (4, .int (nI j_32)), (2, .long z_20), (0, .ref v), (1, .int (nI g))]) hx hb dX9_carry_175 hl (k := 1) rfl (nI_add (i2) 1) (by decide) rfl (fun ls hl => ?_)
                refine lv_goto (tgt := 107) hx hb dX9_carry_178 (by decide) ?_
                exact ih107 (i2 + 1) j_32 _ _ _ ls (by omega) (by omega) (by omega) hTy hFr hFl107 hW (lv_sub hl [0, 1, 2, 3, 4] rfl)
        exact loop ((17 - 0) + 1) 0 g _ _ _ ls (Nat.lt_succ_self _) (by omega) (by omega) hTy hFr Fr.rf hW (lv_sub hl [0, 1, 2, 3, 4] rfl)
      · have c_18 : ¬ (16 ≤ i) := fun hh9 => c_18 ((nI_leI (a := 16) (b := i) (by omega) (by omega)).mpr hh9)
        refine lv_aload_n hx hb dX9_carry_21 rfl (lv_at hl 3 rfl) ?_
        refine pl_get (ci := 9) (v := .ref x_10) (C := RX9) (T := TX9) (N := 13) hx hb hT iX9 hown hK hW hT_v.1 hS_v rfl 9 (by decide) w276 rfl dX9_carry_22 ?_
        refine lv_iload hx hb dX9_carry_25 (lv_at hl 1 rfl) ?_
        obtain ⟨f_47, hS_x_10, hi_f_47⟩ := hTy.k37 hT_x_10
        refine pl_iald hx hb hK hW hT_x_10.1 hS_x_10 (vp_in_nI (n := d) (N := 16) (by omega) (by omega)) dX9_carry_27 ?_
        refine lv_topi (fun y_48 ey_48 => ?_)
        have hv_y_48 := hi_f_47 (d) (by omega)
        rw [show f_47 (d) = y_48 from (ey_48.trans (by show f_47 (nI (d)).toNatClampNeg = _; rw [nI_clamp (by omega)])).symm] at hv_y_48
        refine lv_if_lt (tgt := 68) hx hb dX9_carry_28 (by decide) (fun c_28 => ?_) (fun c_28 => ?_)
        · skip
          refine lv_lload_n hx hb dX9_carry_68 rfl (lv_at hl 2 rfl) ?_
          refine lv_aload_n hx hb dX9_carry_69 rfl (lv_at hl 3 rfl) ?_
          refine pl_get (ci := 9) (v := .ref x_9) (C := RX9) (T := TX9) (N := 13) hx hb hT iX9 hown hK hW hT_v.1 hS_v rfl 8 (by decide) w275 rfl dX9_carry_70 ?_
          refine lv_iload hx hb dX9_carry_73 (lv_at hl 1 rfl) ?_
          obtain ⟨f_50, hS_x_9⟩ := hTy.k36 hT_x_9
          refine pl_lald hx hb hK hW hT_x_9.1 hS_x_9 (vp_in_nI (n := d) (N := 16) (by omega) (by omega)) dX9_carry_75 ?_
          refine lv_topl (fun y_51 ey_51 => ?_)
          refine va_mmin_long hx hb (hml.trans hl.1.symm) hown (hT _ w783) (hT _ w716) (hT _ w15) (hT _ w717) (Nat.le_of_ble_eq_true rfl) (Nat.le_of_ble_eq_true rfl) (Nat.le_of_ble_eq_true rfl) (Nat.le_of_ble_eq_true rfl) dX9_carry_76 ?_
          refine lv_topl (fun z_52 ez_52 => ?_)
          refine lv_lstore_n (lv' := [(2, .long z_52), (5, .int (nI i)), (4, .int (nI d)), (0, .ref v), (1, .int (nI g))]) hx hb dX9_carry_79 rfl hl (by decide) rfl (fun ls hl => ?_)
          refine lv_aload_n hx hb dX9_carry_80 rfl (lv_at hl 3 rfl) ?_
          refine pl_get (ci := 9) (v := .ref x_9) (C := RX9) (T := TX9) (N := 13) hx hb hT iX9 hown hK hW hT_v.1 hS_v rfl 8 (by decide) w275 rfl dX9_carry_81 ?_
          refine lv_iload hx hb dX9_carry_84 (lv_at hl 2 rfl) ?_
          refine lv_dup2_11 hx hb dX9_carry_86 rfl rfl ?_
          refine pl_lald hx hb hK hW hT_x_9.1 hS_x_9 (vp_in_nI (n := d) (N := 16) (by omega) (by omega)) dX9_carry_87 ?_
          refine lv_topl (fun y_53 ey_53 => ?_)
          refine lv_lload_n hx hb dX9_carry_88 rfl (lv_at hl 0 rfl) ?_
          refine lv_lsub hx hb dX9_carry_89 ?_
          refine lv_topl (fun z_54 ez_54 => ?_)
          refine pl_last hx hb hK hW hT_x_9.1 hS_x_9 (vp_in_nI (n := d) (N := 16) (by omega) (by omega)) dX9_carry_90 (fun H locs f_56 S_55 ef_f_56 e1 hW => ?_)
          have hTy := hTy.u36 e1 hT_x_9 ⟨f_56, rfl⟩
          have hS_v := un e1 hT_v hT_x_9 (by decide) hS_v
          have hS_x_10 := un e1 hT_x_10 hT_x_9 (by decide) hS_x_10
          have hFr := uf hFr e1 hT_x_9 (by decide) (by decide)
          have hFl14 := uf hFl14 e1 hT_x_9 (by decide) (by decide)
          have hS_x_9 := us e1
          refine lv_aload_n hx hb dX9_carry_91 rfl (lv_at hl 3 rfl) ?_
          refine pl_get (ci := 9) (v := .ref x_9) (C := RX9) (T := TX9) (N := 13) hx hb hT iX9 hown hK hW hT_v.1 hS_v rfl 8 (by decide) w275 rfl dX9_carry_92 ?_
          refine lv_iload_n hx hb dX9_carry_95 rfl (lv_at hl 4 rfl) ?_
          refine lv_dup2_11 hx hb dX9_carry_96 rfl rfl ?_
          refine pl_lald hx hb hK hW hT_x_9.1 hS_x_9 (vp_in_nI (n := g) (N := 16) (by omega) (by omega)) dX9_carry_97 ?_
          refine lv_topl (fun y_57 ey_57 => ?_)
          refine lv_lload_n hx hb dX9_carry_98 rfl (lv_at hl 0 rfl) ?_
          refine lv_ladd hx hb dX9_carry_99 ?_
          refine lv_topl (fun z_58 ez_58 => ?_)
          refine pl_last hx hb hK hW hT_x_9.1 hS_x_9 (vp_in_nI (n := g) (N := 16) (by omega) (by omega)) dX9_carry_100 (fun H locs f_60 S_59 ef_f_60 e1 hW => ?_)
          have hTy := hTy.u36 e1 hT_x_9 ⟨f_60, rfl⟩
          have hS_v := un e1 hT_v hT_x_9 (by decide) hS_v
          have hS_x_10 := un e1 hT_x_10 hT_x_9 (by decide) hS_x_10
          have hFr := uf hFr e1 hT_x_9 (by decide) (by decide)
          have hFl14 := uf hFl14 e1 hT_x_9 (by decide) (by decide)
          have hS_x_9 := us e1
          refine lv_iload_n hx hb dX9_carry_101 rfl (lv_at hl 4 rfl) ?_
          refine lv_istore (lv' := [(4, .int (nI g)), (2, .long z_52), (5, .int (nI i)), (0, .ref v), (1, .int (nI g))]) hx hb dX9_carry_102 hl (by decide) rfl (fun ls hl => ?_)
          refine lv_iconst (v := 0) hx hb dX9_carry_104 (by decide) ?_
          refine lv_istore (lv' := [(5, .int 0), (4, .int (nI g)), (2, .long z_52), (0, .ref v), (1, .int (nI g))]) hx hb dX9_carry_105 hl (by decide) rfl (fun ls hl => ?_)
          have loop : ∀ (fuel : Nat) (i2 : Nat) (d2 : Nat) (SS : Nat → va_E) (H : Heap) (locs : List Loc) (ls : Array Slot), 17 - i2 < fuel → (i2 ≤ 16) → (d2 ≤ 15) → Ty cy L kap pr SS → Fr kap [36, 45] S SS → Fr kap [45] S_59 SS → PW dC dI L (AL L s.heap.size) s.heap SS H locs → lv_has ls 6 [(5, .int (nI i2)), (4, .int (nI d2)), (2, .long z_52), (0, .ref v), (1, .int (nI g))] → W p l e (headSpec (wT yX9_carry cX9_carry 6 none) { frames := 1, cells := 0, slots := 0, locals := 40 }).room s m [.ref v, .int (nI g)].toArray below meth c H locs 0 0 (MQ below (va_Qv (fun S' => Ty cy L kap pr S' ∧ Fr kap [36, 45] S S') (fun S' t => pB dC dI (AL L s.heap.size) (va_pl L S') (cyT cy) t) (AL L s.heap.size)) [.ref v, .int (nI g)].toArray s 0 0 (AL L s.heap.size)) (F0 m 107 ls []) := by
            intro fuel
            induction fuel with
            | zero => intro i2 d2 SS H locs ls h; exact absurd h (Nat.not_lt_zero _)
            | succ fu107 ih107 =>
              intro i2 d2 S_61 H locs ls hm107 hb_i2 hb_d2 hTy hFr hFl107 hW hl
              have hS_v := hFl107.at hT_v (by decide) hS_v
              have hS_x_10 := hFl107.at hT_x_10 (by decide) hS_x_10
              have hS_x_9 := hFl107.at hT_x_9 (by decide) hS_x_9
              have hFl14 := hFl14.tr hFl107 (by decide)
              refine lv_iload hx hb dX9_carry_107 (lv_at hl 0 rfl) ?_
              refine lv_bipush (v := 16) hx hb dX9_carry_109 (by decide) ?_
              refine lv_icmp_ge (tgt := 181) hx hb dX9_carry_111 (by decide) (fun c_111 => ?_) (fun c_111 => ?_)
              · have c_111 : 16 ≤ i2 := (nI_leI (a := 16) (b := i2) (by omega) (by omega)).mp c_111
                exact W.vret hx hb hr (fun t ht h9 => ⟨⟨S_61, rfl, ⟨hTy, hFr⟩, by rw [ht]; exact hW.1, va_K.moved h9.alike hK, hW.2.1⟩, hW.2.2.F ht⟩) hW.2.2.2.2 dX9_carry_181
              · have c_111 : ¬ (16 ≤ i2) := fun hh9 => c_111 ((nI_leI (a := 16) (b := i2) (by omega) (by omega)).mpr hh9)
                refine lv_aload_n hx hb dX9_carry_114 rfl (lv_at hl 3 rfl) ?_
                refine pl_get (ci := 9) (v := .ref x_10) (C := RX9) (T := TX9) (N := 13) hx hb hT iX9 hown hK hW hT_v.1 hS_v rfl 9 (by decide) w276 rfl dX9_carry_115 ?_
                refine lv_iload hx hb dX9_carry_118 (lv_at hl 1 rfl) ?_
                refine pl_iald hx hb hK hW hT_x_10.1 hS_x_10 (vp_in_nI (n := d2) (N := 16) (by omega) (by omega)) dX9_carry_120 ?_
                refine lv_topi (fun y_62 ey_62 => ?_)
                have hv_y_62 := hi_f_47 (d2) (by omega)
                rw [show f_47 (d2) = y_62 from (ey_62.trans (by show f_47 (nI (d2)).toNatClampNeg = _; rw [nI_clamp (by omega)])).symm] at hv_y_62
                refine lv_if_lt (tgt := 181) hx hb dX9_carry_121 (by decide) (fun c_121 => ?_) (fun c_121 => ?_)
                · skip
                  exact W.vret hx hb hr (fun t ht h9 => ⟨⟨S_61, rfl, ⟨hTy, hFr⟩, by rw [ht]; exact hW.1, va_K.moved h9.alike hK, hW.2.1⟩, hW.2.2.F ht⟩) hW.2.2.2.2 dX9_carry_181
                · obtain ⟨j_63, hj_j_63, rfl⟩ := nI_of c_121
                  have hv_j_63 := v16 (by omega) hv_y_62
                  refine lv_aload_n hx hb dX9_carry_124 rfl (lv_at hl 3 rfl) ?_
                  refine pl_get (ci := 9) (v := .ref x_7) (C := RX9) (T := TX9) (N := 13) hx hb hT iX9 hown hK hW hT_v.1 hS_v rfl 6 (by decide) w273 rfl dX9_carry_125 ?_
                  refine lv_aload_n hx hb dX9_carry_128 rfl (lv_at hl 3 rfl) ?_
                  refine pl_get (ci := 9) (v := .ref x_10) (C := RX9) (T := TX9) (N := 13) hx hb hT iX9 hown hK hW hT_v.1 hS_v rfl 9 (by decide) w276 rfl dX9_carry_129 ?_
                  refine lv_iload hx hb dX9_carry_132 (lv_at hl 1 rfl) ?_
                  refine pl_iald hx hb hK hW hT_x_10.1 hS_x_10 (vp_in_nI (n := d2) (N := 16) (by omega) (by omega)) dX9_carry_134 ?_
                  refine lv_topi (fun y_64 ey_64 => ?_)
                  obtain rfl : y_64 = nI j_63 := ey_64.trans ey_62.symm
                  refine lv_iload hx hb dX9_carry_135 (lv_at hl 1 rfl) ?_
                  refine vp_callSi (va_Run.run (va_runS (As := [.int (nI j_63), .int (nI d2)]) (rest := [.ref x_7]) ⟨hx, hb, hml, hown, hT⟩ (s_step l dC dI H.size j_63 d2 (by omega) (by omega)) (va_cwS 2 hT (gS w777 w778 w11 w779) rfl rfl rfl (by decide +kernel) ⟨(Nat.le_of_ble_eq_true rfl), (Nat.le_of_ble_eq_true rfl)⟩) ⟨pcW.blind, pcW.pre (va_P0 _ _ _) (hK.sub (tys' := []) [] rfl) (va_D0 (fun _ => True))⟩ rfl rfl hl.1 rfl (lv_room (Nat.le_of_ble_eq_true rfl)) dX9_carry_137 ⟨(Nat.le_of_ble_eq_true rfl), (Nat.le_of_ble_eq_true rfl)⟩)) (fun r_65 hr_65 => ?_)
                  obtain rfl : r_65 = nI (j_63 * 16 + d2) := hr_65
                  refine lv_dup2_11 hx hb dX9_carry_140 rfl rfl ?_
                  obtain ⟨f_66, hS_x_7⟩ := hTy.k45 hT_x_7
                  refine pl_lald hx hb hK hW hT_x_7.1 hS_x_7 (vp_in_nI (n := j_63 * 16 + d2) (N := 256) (by omega) (by omega)) dX9_carry_141 ?_
                  refine lv_topl (fun y_67 ey_67 => ?_)
                  refine lv_lload_n hx hb dX9_carry_142 rfl (lv_at hl 2 rfl) ?_
                  refine lv_lsub hx hb dX9_carry_143 ?_
                  refine lv_topl (fun z_68 ez_68 => ?_)
                  refine pl_last hx hb hK hW hT_x_7.1 hS_x_7 (vp_in_nI (n := j_63 * 16 + d2) (N := 256) (by omega) (by omega)) dX9_carry_144 (fun H locs f_70 S_69 ef_f_70 e1 hW => ?_)
                  have hTy := hTy.u45 e1 hT_x_7 ⟨f_70, rfl⟩
                  have hS_v := un e1 hT_v hT_x_7 (by decide) hS_v
                  have hS_x_10 := un e1 hT_x_10 hT_x_7 (by decide) hS_x_10
                  have hS_x_9 := un e1 hT_x_9 hT_x_7 (by decide) hS_x_9
                  have hFr := uf hFr e1 hT_x_7 (by decide) (by decide)
                  have hFl14 := uf hFl14 e1 hT_x_7 (by decide) (by decide)
                  have hFl107 := uf hFl107 e1 hT_x_7 (by decide) (by decide)
                  have hS_x_7 := us e1
                  refine lv_aload_n hx hb dX9_carry_145 rfl (lv_at hl 3 rfl) ?_
                  refine pl_get (ci := 9) (v := .ref x_7) (C := RX9) (T := TX9) (N := 13) hx hb hT iX9 hown hK hW hT_v.1 hS_v rfl 6 (by decide) w273 rfl dX9_carry_146 ?_
                  refine lv_iload hx hb dX9_carry_149 (lv_at hl 1 rfl) ?_
                  refine lv_aload_n hx hb dX9_carry_151 rfl (lv_at hl 3 rfl) ?_
                  refine pl_get (ci := 9) (v := .ref x_10) (C := RX9) (T := TX9) (N := 13) hx hb hT iX9 hown hK hW hT_v.1 hS_v rfl 9 (by decide) w276 rfl dX9_carry_152 ?_
                  refine lv_iload hx hb dX9_carry_155 (lv_at hl 1 rfl) ?_
                  refine pl_iald hx hb hK hW hT_x_10.1 hS_x_10 (vp_in_nI (n := d2) (N := 16) (by omega) (by omega)) dX9_carry_157 ?_
                  refine lv_topi (fun y_71 ey_71 => ?_)
                  obtain rfl : y_71 = nI j_63 := ey_71.trans ey_62.symm
                  refine vp_callSi (va_Run.run (va_runS (As := [.int (nI d2), .int (nI j_63)]) (rest := [.ref x_7]) ⟨hx, hb, hml, hown, hT⟩ (s_step l dC dI H.size d2 j_63 (by omega) (by omega)) (va_cwS 2 hT (gS w777 w778 w11 w779) rfl rfl rfl (by decide +kernel) ⟨(Nat.le_of_ble_eq_true rfl), (Nat.le_of_ble_eq_true rfl)⟩) ⟨pcW.blind, pcW.pre (va_P0 _ _ _) (hK.sub (tys' := []) [] rfl) (va_D0 (fun _ => True))⟩ rfl rfl hl.1 rfl (lv_room (Nat.le_of_ble_eq_true rfl)) dX9_carry_158 ⟨(Nat.le_of_ble_eq_true rfl), (Nat.le_of_ble_eq_true rfl)⟩)) (fun r_72 hr_72 => ?_)
                  obtain rfl : r_72 = nI (d2 * 16 + j_63) := hr_72
                  refine lv_dup2_11 hx hb dX9_carry_161 rfl rfl ?_
                  refine pl_lald hx hb hK hW hT_x_7.1 hS_x_7 (vp_in_nI (n := d2 * 16 + j_63) (N := 256) (by omega) (by omega)) dX9_carry_162 ?_
                  refine lv_topl (fun y_73 ey_73 => ?_)
                  refine lv_lload_n hx hb dX9_carry_163 rfl (lv_at hl 2 rfl) ?_
                  refine lv_ladd hx hb dX9_carry_164 ?_
                  refine lv_topl (fun z_74 ez_74 => ?_)
                  refine pl_last hx hb hK hW hT_x_7.1 hS_x_7 (vp_in_nI (n := d2 * 16 + j_63) (N := 256) (by omega) (by omega)) dX9_carry_165 (fun H locs f_76 S_75 ef_f_76 e1 hW => ?_)
                  have hTy := hTy.u45 e1 hT_x_7 ⟨f_76, rfl⟩
                  have hS_v := un e1 hT_v hT_x_7 (by decide) hS_v
                  have hS_x_10 := un e1 hT_x_10 hT_x_7 (by decide) hS_x_10
                  have hS_x_9 := un e1 hT_x_9 hT_x_7 (by decide) hS_x_9
                  have hFr := uf hFr e1 hT_x_7 (by decide) (by decide)
                  have hFl14 := uf hFl14 e1 hT_x_7 (by decide) (by decide)
                  have hFl107 := uf hFl107 e1 hT_x_7 (by decide) (by decide)
                  have hS_x_7 := us e1
                  refine lv_aload_n hx hb dX9_carry_166 rfl (lv_at hl 3 rfl) ?_
                  refine pl_get (ci := 9) (v := .ref x_10) (C := RX9) (T := TX9) (N := 13) hx hb hT iX9 hown hK hW hT_v.1 hS_v rfl 9 (by decide) w276 rfl dX9_carry_167 ?_
                  refine lv_iload hx hb dX9_carry_170 (lv_at hl 1 rfl) ?_
                  refine pl_iald hx hb hK hW hT_x_10.1 hS_x_10 (vp_in_nI (n := d2) (N := 16) (by omega) (by omega)) dX9_carry_172 ?_
                  refine lv_topi (fun y_77 ey_77 => ?_)
                  obtain rfl : y_77 = nI j_63 := ey_77.trans ey_62.symm
                  refine lv_istore (lv' := [(4, .int (nI j_63)), (5, .int (nI i2)), (2, .long z_52), (0, .ref v), (1, .int (nI g))]) hx hb dX9_carry_173 hl (by decide) rfl (fun ls hl => ?_)
                  refine lv_iinc (v := nI (i2 + 1)) (lv' := [(5, .int (nI (i2 + 1))), (4, .int (nI j_63)), (2, .long z_52), (0, .ref v), (1, .int (nI g))]) hx hb dX9_carry_175 hl (k := 1) rfl (nI_add (i2) 1) (by decide) rfl (fun ls hl => ?_)
                  refine lv_goto (tgt := 107) hx hb dX9_carry_178 (by decide) ?_
                  exact ih107 (i2 + 1) j_63 _ _ _ ls (by omega) (by omega) (by omega) hTy hFr hFl107 hW (lv_sub hl [0, 1, 2, 3, 4] rfl)
          exact loop ((17 - 0) + 1) 0 g _ _ _ ls (Nat.lt_succ_self _) (by omega) (by omega) hTy hFr Fr.rf hW (lv_sub hl [0, 1, 2, 3, 4] rfl)
        · obtain ⟨j_49, hj_j_49, rfl⟩ := nI_of c_28
          have hv_j_49 := v16 (by omega) hv_y_48
          refine lv_lload_n hx hb dX9_carry_31 rfl (lv_at hl 2 rfl) ?_
          refine lv_aload_n hx hb dX9_carry_32 rfl (lv_at hl 3 rfl) ?_
          refine pl_get (ci := 9) (v := .ref x_7) (C := RX9) (T := TX9) (N := 13) hx hb hT iX9 hown hK hW hT_v.1 hS_v rfl 6 (by decide) w273 rfl dX9_carry_33 ?_
          refine lv_aload_n hx hb dX9_carry_36 rfl (lv_at hl 3 rfl) ?_
          refine pl_get (ci := 9) (v := .ref x_10) (C := RX9) (T := TX9) (N := 13) hx hb hT iX9 hown hK hW hT_v.1 hS_v rfl 9 (by decide) w276 rfl dX9_carry_37 ?_
          refine lv_iload hx hb dX9_carry_40 (lv_at hl 1 rfl) ?_
          refine pl_iald hx hb hK hW hT_x_10.1 hS_x_10 (vp_in_nI (n := d) (N := 16) (by omega) (by omega)) dX9_carry_42 ?_
          refine lv_topi (fun y_78 ey_78 => ?_)
          obtain rfl : y_78 = nI j_49 := ey_78.trans ey_48.symm
          refine lv_iload hx hb dX9_carry_43 (lv_at hl 1 rfl) ?_
          refine vp_callSi (va_Run.run (va_runS (As := [.int (nI j_49), .int (nI d)]) (rest := [.ref x_7, .long am]) ⟨hx, hb, hml, hown, hT⟩ (s_step l dC dI H.size j_49 d (by omega) (by omega)) (va_cwS 2 hT (gS w777 w778 w11 w779) rfl rfl rfl (by decide +kernel) ⟨(Nat.le_of_ble_eq_true rfl), (Nat.le_of_ble_eq_true rfl)⟩) ⟨pcW.blind, pcW.pre (va_P0 _ _ _) (hK.sub (tys' := []) [] rfl) (va_D0 (fun _ => True))⟩ rfl rfl hl.1 rfl (lv_room (Nat.le_of_ble_eq_true rfl)) dX9_carry_45 ⟨(Nat.le_of_ble_eq_true rfl), (Nat.le_of_ble_eq_true rfl)⟩)) (fun r_79 hr_79 => ?_)
          obtain rfl : r_79 = nI (j_49 * 16 + d) := hr_79
          obtain ⟨f_80, hS_x_7⟩ := hTy.k45 hT_x_7
          refine pl_lald hx hb hK hW hT_x_7.1 hS_x_7 (vp_in_nI (n := j_49 * 16 + d) (N := 256) (by omega) (by omega)) dX9_carry_48 ?_
          refine lv_topl (fun y_81 ey_81 => ?_)
          refine va_mmin_long hx hb (hml.trans hl.1.symm) hown (hT _ w783) (hT _ w716) (hT _ w15) (hT _ w717) (Nat.le_of_ble_eq_true rfl) (Nat.le_of_ble_eq_true rfl) (Nat.le_of_ble_eq_true rfl) (Nat.le_of_ble_eq_true rfl) dX9_carry_49 ?_
          refine lv_topl (fun z_82 ez_82 => ?_)
          refine lv_lstore_n (lv' := [(2, .long z_82), (5, .int (nI i)), (4, .int (nI d)), (0, .ref v), (1, .int (nI g))]) hx hb dX9_carry_52 rfl hl (by decide) rfl (fun ls hl => ?_)
          refine lv_aload_n hx hb dX9_carry_53 rfl (lv_at hl 3 rfl) ?_
          refine pl_get (ci := 9) (v := .ref x_10) (C := RX9) (T := TX9) (N := 13) hx hb hT iX9 hown hK hW hT_v.1 hS_v rfl 9 (by decide) w276 rfl dX9_carry_54 ?_
          refine lv_iload hx hb dX9_carry_57 (lv_at hl 2 rfl) ?_
          refine pl_iald hx hb hK hW hT_x_10.1 hS_x_10 (vp_in_nI (n := d) (N := 16) (by omega) (by omega)) dX9_carry_59 ?_
          refine lv_topi (fun y_83 ey_83 => ?_)
          obtain rfl : y_83 = nI j_49 := ey_83.trans ey_48.symm
          refine lv_istore (lv' := [(4, .int (nI j_49)), (2, .long z_82), (5, .int (nI i)), (0, .ref v), (1, .int (nI g))]) hx hb dX9_carry_60 hl (by decide) rfl (fun ls hl => ?_)
          refine lv_iinc (v := nI (i + 1)) (lv' := [(5, .int (nI (i + 1))), (4, .int (nI j_49)), (2, .long z_82), (0, .ref v), (1, .int (nI g))]) hx hb dX9_carry_62 hl (k := 2) rfl (nI_add (i) 1) (by decide) rfl (fun ls hl => ?_)
          refine lv_goto (tgt := 14) hx hb dX9_carry_65 (by decide) ?_
          exact ih14 (i + 1) j_49 z_82 _ _ _ ls (by omega) (by omega) (by omega) hTy hFr hFl14 hW (lv_sub hl [0, 1, 2, 3, 4] rfl)
  exact loop ((17 - 0) + 1) 0 g z_16 _ _ _ ls (Nat.lt_succ_self _) (by omega) (by omega) hTy hFr Fr.rf hW (lv_sub hl [0, 1, 2, 3, 4] rfl)

set_option maxHeartbeats 4000000 in
set_option maxRecDepth 100000 in
theorem s_lift (l : Launch) (dC : Nat → ClassId) (dI : Nat → Nat → Nat) (cy : Nat → ClassId) (L : List Nat) (kap : Nat → Nat) (pr : Pr) (S : Nat → va_E) (sz : Nat) (v : Nat) (hTy : Ty cy L kap pr S) (hT_v : TK L kap v 9) : Met l yX9_lift (wT yX9_lift cX9_lift 4 (some .boolean)) ({ frames := 1, cells := 0, slots := 0, locals := 23 }) (pcN dC dI [.ref v] sz (va_pl L S) (cyT cy) NLs []) (va_Qi (fun r S' => Ty cy L kap pr S' ∧ Fr kap [35] S S' ∧ (r = 0 ∨ r = 1)) (fun S' t => pB dC dI (AL L sz) (va_pl L S') (cyT cy) t) (AL L sz)) 0 0 (AL L sz) := by
  refine Met.ofW (cc := cX9_lift) (maxL := 4) (ret := (some .boolean)) (by decide) rfl ?_
  intro p e s m args below meth c s₁ B hml hv
  obtain ⟨rfl, hsz, hP, hK, hD0, hN, -⟩ := hv
  have hx := B.exec
  have hb := B.bytes
  have hr := B.returns
  have hT : ∀ wd ∈ TB, wd.before [.ref v].toArray s = true := fun wd h => atoms_spec (ws := wT yX9_lift cX9_lift 4 (some .boolean)) B.pre wd (List.mem_cons_of_mem _ h)
  have hown : s.vm.findClass RX9 = some m.cls := findClass_of_methodNamed B.named
  have hlocks := B.notSynchronized
  subst hsz
  have hW : PW dC dI L (AL L s.heap.size) s.heap S s.heap [] := ⟨hP, pl_self hD0, va_S.rf⟩
  have hA0 : ∀ q, q ∈ L → AL L s.heap.size q := fun _ h => Or.inl h
  have hA : ∀ q, s.heap.size ≤ q → AL L s.heap.size q := fun _ h => Or.inr h
  have hFr : Fr kap [35] S S := Fr.rf
  have hl := lv_entry ([.ref v]) (n := 4) (Nat.le_of_ble_eq_true rfl)
  rw [lg_entry_eq]
  generalize (lg_sl ([.ref v]) ++ List.replicate (4 - (lg_sl ([.ref v])).length) Slot.unset).toArray = ls at hl ⊢
  have hl : lv_has ls 4 [(0, .ref v)] := hl
  refine lv_iconst (v := (-1)) hx hb dX9_lift_0 (by decide) ?_
  refine lv_istore_n (lv' := [(1, .int (-1)), (0, .ref v)]) hx hb dX9_lift_1 rfl hl (by decide) rfl (fun ls hl => ?_)
  refine lv_iconst (v := 0) hx hb dX9_lift_2 (by decide) ?_
  refine lv_istore_n (lv' := [(2, .int 0), (1, .int (-1)), (0, .ref v)]) hx hb dX9_lift_3 rfl hl (by decide) rfl (fun ls hl => ?_)
  have loop : ∀ (fuel : Nat) (i : Nat) (ch : Int32) (SS : Nat → va_E) (H : Heap) (locs : List Loc) (ls : Array Slot), 17 - i < fuel → (i ≤ 16) → Ty cy L kap pr SS → Fr kap [35] S SS → Fr kap [] S SS → PW dC dI L (AL L s.heap.size) s.heap SS H locs → lv_has ls 4 [(2, .int (nI i)), (1, .int ch), (0, .ref v)] → W p l e (headSpec (wT yX9_lift cX9_lift 4 (some .boolean)) { frames := 1, cells := 0, slots := 0, locals := 23 }).room s m [.ref v].toArray below meth c H locs 0 0 (MQ below (va_Qi (fun r S' => Ty cy L kap pr S' ∧ Fr kap [35] S S' ∧ (r = 0 ∨ r = 1)) (fun S' t => pB dC dI (AL L s.heap.size) (va_pl L S') (cyT cy) t) (AL L s.heap.size)) [.ref v].toArray s 0 0 (AL L s.heap.size)) (F0 m 4 ls []) := by
    intro fuel
    induction fuel with
    | zero => intro i ch SS H locs ls h; exact absurd h (Nat.not_lt_zero _)
    | succ fu4 ih4 =>
      intro i ch S_1 H locs ls hm4 hb_i hTy hFr hFl4 hW hl
      refine lv_iload_n hx hb dX9_lift_4 rfl (lv_at hl 0 rfl) ?_
      refine lv_aload_n hx hb dX9_lift_5 rfl (lv_at hl 2 rfl) ?_
      obtain ⟨x_2, x_3, x_4, x_5, x_6, x_7, x_8, x_9, x_10, x_11, x_12, x_13, x_14, hS_v, hT_x_2, hT_x_3, hT_x_6, hT_x_7, hT_x_8, hT_x_9, hT_x_10, hT_x_11, hT_x_12, hb_x_13, hb_x_14⟩ := hTy.k9 hT_v
      refine pl_get (ci := 9) (v := .int (nI x_14)) (C := RX9) (T := TX9) (N := 13) hx hb hT iX9 hown hK hW hT_v.1 hS_v rfl 12 (by decide) w279 rfl dX9_lift_6 ?_
      refine lv_icmp_ge (tgt := 97) hx hb dX9_lift_9 (by decide) (fun c_9 => ?_) (fun c_9 => ?_)
      · have c_9 : x_14 ≤ i := (nI_leI (a := x_14) (b := i) (by omega) (by omega)).mp c_9
        refine lv_iload_n hx hb dX9_lift_97 rfl (lv_at hl 1 rfl) ?_
        refine lv_iconst (v := (-1)) hx hb dX9_lift_98 (by decide) ?_
        refine lv_icmp_ne (tgt := 104) hx hb dX9_lift_99 (by decide) (fun c_99 => ?_) (fun c_99 => ?_)
        · refine lv_iconst (v := 0) hx hb dX9_lift_104 (by decide) ?_
          refine lv_istore_n (lv' := [(2, .int 0), (1, .int ch), (0, .ref v)]) hx hb dX9_lift_105 rfl hl (by decide) rfl (fun ls hl => ?_)
          have loop : ∀ (fuel : Nat) (i3 : Nat) (SS : Nat → va_E) (H : Heap) (locs : List Loc) (ls : Array Slot), 17 - i3 < fuel → (i3 ≤ 16) → Ty cy L kap pr SS → Fr kap [35] S SS → Fr kap [35] S_1 SS → PW dC dI L (AL L s.heap.size) s.heap SS H locs → lv_has ls 4 [(2, .int (nI i3)), (1, .int ch), (0, .ref v)] → W p l e (headSpec (wT yX9_lift cX9_lift 4 (some .boolean)) { frames := 1, cells := 0, slots := 0, locals := 23 }).room s m [.ref v].toArray below meth c H locs 0 0 (MQ below (va_Qi (fun r S' => Ty cy L kap pr S' ∧ Fr kap [35] S S' ∧ (r = 0 ∨ r = 1)) (fun S' t => pB dC dI (AL L s.heap.size) (va_pl L S') (cyT cy) t) (AL L s.heap.size)) [.ref v].toArray s 0 0 (AL L s.heap.size)) (F0 m 106 ls []) := by
            intro fuel
            induction fuel with
            | zero => intro i3 SS H locs ls h; exact absurd h (Nat.not_lt_zero _)
            | succ fu106 ih106 =>
              intro i3 S_15 H locs ls hm106 hb_i3 hTy hFr hFl106 hW hl
              have hS_v := hFl106.at hT_v (by decide) hS_v
              refine lv_iload_n hx hb dX9_lift_106 rfl (lv_at hl 0 rfl) ?_
              refine lv_aload_n hx hb dX9_lift_107 rfl (lv_at hl 2 rfl) ?_
              refine pl_get (ci := 9) (v := .int (nI x_14)) (C := RX9) (T := TX9) (N := 13) hx hb hT iX9 hown hK hW hT_v.1 hS_v rfl 12 (by decide) w279 rfl dX9_lift_108 ?_
              refine lv_icmp_ge (tgt := 141) hx hb dX9_lift_111 (by decide) (fun c_111 => ?_) (fun c_111 => ?_)
              · have c_111 : x_14 ≤ i3 := (nI_leI (a := x_14) (b := i3) (by omega) (by omega)).mp c_111
                refine lv_iconst (v := 1) hx hb dX9_lift_141 (by decide) ?_
                exact W.zret (ty := .boolean) (v := 1) hx hb hr (by decide) (fun t ht h9 => ⟨⟨1, S_15, rfl, ⟨hTy, hFr, Or.inr rfl⟩, by rw [ht]; exact hW.1, va_K.moved h9.alike hK, hW.2.1⟩, hW.2.2.F ht⟩) hW.2.2.2.2 dX9_lift_142
              · have c_111 : ¬ (x_14 ≤ i3) := fun hh9 => c_111 ((nI_leI (a := x_14) (b := i3) (by omega) (by omega)).mpr hh9)
                refine lv_aload_n hx hb dX9_lift_114 rfl (lv_at hl 2 rfl) ?_
                refine pl_get (ci := 9) (v := .ref x_11) (C := RX9) (T := TX9) (N := 13) hx hb hT iX9 hown hK hW hT_v.1 hS_v rfl 9 (by decide) w276 rfl dX9_lift_115 ?_
                refine lv_iload_n hx hb dX9_lift_118 rfl (lv_at hl 0 rfl) ?_
                obtain ⟨f_16, hS_x_11, hi_f_16⟩ := hTy.k37 hT_x_11
                refine pl_iald hx hb hK hW hT_x_11.1 hS_x_11 (vp_in_nI (n := i3) (N := 16) (by omega) (by omega)) dX9_lift_119 ?_
                refine lv_topi (fun y_17 ey_17 => ?_)
                have hv_y_17 := hi_f_16 (i3) (by omega)
                rw [show f_16 (i3) = y_17 from (ey_17.trans (by show f_16 (nI (i3)).toNatClampNeg = _; rw [nI_clamp (by omega)])).symm] at hv_y_17
                refine lv_bipush (v := (-2)) hx hb dX9_lift_120 (by decide) ?_
                refine lv_icmp_ne (tgt := 135) hx hb dX9_lift_122 (by decide) (fun c_122 => ?_) (fun c_122 => ?_)
                · refine lv_iinc (v := nI (i3 + 1)) (lv' := [(2, .int (nI (i3 + 1))), (1, .int ch), (0, .ref v)]) hx hb dX9_lift_135 hl (k := 0) rfl (nI_add (i3) 1) (by decide) rfl (fun ls hl => ?_)
                  refine lv_goto (tgt := 106) hx hb dX9_lift_138 (by decide) ?_
                  exact ih106 (i3 + 1) _ _ _ ls (by omega) (by omega) hTy hFr hFl106 hW (lv_sub hl [0, 1, 2] rfl)
                · refine lv_aload_n hx hb dX9_lift_125 rfl (lv_at hl 2 rfl) ?_
                  refine pl_get (ci := 9) (v := .ref x_9) (C := RX9) (T := TX9) (N := 13) hx hb hT iX9 hown hK hW hT_v.1 hS_v rfl 7 (by decide) w274 rfl dX9_lift_126 ?_
                  refine lv_iload_n hx hb dX9_lift_129 rfl (lv_at hl 0 rfl) ?_
                  refine lv_dup2_11 hx hb dX9_lift_130 rfl rfl ?_
                  obtain ⟨f_18, hS_x_9⟩ := hTy.k35 hT_x_9
                  refine pl_iald hx hb hK hW hT_x_9.1 hS_x_9 (vp_in_nI (n := i3) (N := 16) (by omega) (by omega)) dX9_lift_131 ?_
                  refine lv_topi (fun y_19 ey_19 => ?_)
                  refine lv_iload_n hx hb dX9_lift_132 rfl (lv_at hl 1 rfl) ?_
                  refine lv_iadd hx hb dX9_lift_133 ?_
                  refine lv_topi (fun z_20 ez_20 => ?_)
                  refine pl_iast hx hb hK hW hT_x_9.1 hS_x_9 (vp_in_nI (n := i3) (N := 16) (by omega) (by omega)) dX9_lift_134 (fun H locs f_22 S_21 ef_f_22 e1 hW => ?_)
                  have hTy := hTy.u35 e1 hT_x_9 ⟨f_22, rfl⟩
                  have hS_v := un e1 hT_v hT_x_9 (by decide) hS_v
                  have hS_x_11 := un e1 hT_x_11 hT_x_9 (by decide) hS_x_11
                  have hFr := uf hFr e1 hT_x_9 (by decide) (by decide)
                  have hFl106 := uf hFl106 e1 hT_x_9 (by decide) (by decide)
                  have hS_x_9 := us e1
                  refine lv_iinc (v := nI (i3 + 1)) (lv' := [(2, .int (nI (i3 + 1))), (1, .int ch), (0, .ref v)]) hx hb dX9_lift_135 hl (k := 0) rfl (nI_add (i3) 1) (by decide) rfl (fun ls hl => ?_)
                  refine lv_goto (tgt := 106) hx hb dX9_lift_138 (by decide) ?_
                  exact ih106 (i3 + 1) _ _ _ ls (by omega) (by omega) hTy hFr hFl106 hW (lv_sub hl [0, 1, 2] rfl)
          exact loop ((17 - 0) + 1) 0 _ _ _ ls (Nat.lt_succ_self _) (by omega) hTy hFr Fr.rf hW (lv_sub hl [0, 1, 2] rfl)
        · refine lv_iconst (v := 0) hx hb dX9_lift_102 (by decide) ?_
          exact W.zret (ty := .boolean) (v := 0) hx hb hr (by decide) (fun t ht h9 => ⟨⟨0, S_1, rfl, ⟨hTy, hFr, Or.inl rfl⟩, by rw [ht]; exact hW.1, va_K.moved h9.alike hK, hW.2.1⟩, hW.2.2.F ht⟩) hW.2.2.2.2 dX9_lift_103
      · have c_9 : ¬ (x_14 ≤ i) := fun hh9 => c_9 ((nI_leI (a := x_14) (b := i) (by omega) (by omega)).mpr hh9)
        refine lv_iconst (v := 1) hx hb dX9_lift_12 (by decide) ?_
        refine lv_iload_n hx hb dX9_lift_13 rfl (lv_at hl 0 rfl) ?_
        refine lv_iconst (v := 1) hx hb dX9_lift_14 (by decide) ?_
        refine lv_iand hx hb dX9_lift_15 ?_
        refine lv_topi (fun z_23 ez_23 => ?_)
        obtain rfl : z_23 = nI (i % 2) := ez_23.trans (pk_andN (n := i) (by omega) 1 (by decide))
        refine lv_isub hx hb dX9_lift_16 ?_
        refine lv_topi (fun z_24 ez_24 => ?_)
        obtain rfl : z_24 = nI (1 - (i % 2)) := ez_24.trans (pk_sub (a := 1) (b := i % 2) (by omega))
        refine lv_istore_n (lv' := [(3, .int (nI (1 - (i % 2)))), (2, .int (nI i)), (1, .int ch), (0, .ref v)]) hx hb dX9_lift_17 rfl hl (by decide) rfl (fun ls hl => ?_)
        have loop : ∀ (fuel : Nat) (j : Nat) (ch2 : Int32) (SS : Nat → va_E) (H : Heap) (locs : List Loc) (ls : Array Slot), 18 - j < fuel → (j ≤ 17) → Ty cy L kap pr SS → Fr kap [35] S SS → Fr kap [] S_1 SS → PW dC dI L (AL L s.heap.size) s.heap SS H locs → lv_has ls 4 [(3, .int (nI j)), (2, .int (nI i)), (1, .int ch2), (0, .ref v)] → W p l e (headSpec (wT yX9_lift cX9_lift 4 (some .boolean)) { frames := 1, cells := 0, slots := 0, locals := 23 }).room s m [.ref v].toArray below meth c H locs 0 0 (MQ below (va_Qi (fun r S' => Ty cy L kap pr S' ∧ Fr kap [35] S S' ∧ (r = 0 ∨ r = 1)) (fun S' t => pB dC dI (AL L s.heap.size) (va_pl L S') (cyT cy) t) (AL L s.heap.size)) [.ref v].toArray s 0 0 (AL L s.heap.size)) (F0 m 18 ls []) := by
          intro fuel
          induction fuel with
          | zero => intro j ch2 SS H locs ls h; exact absurd h (Nat.not_lt_zero _)
          | succ fu18 ih18 =>
            intro j ch2 S_25 H locs ls hm18 hb_j hTy hFr hFl18 hW hl
            have hS_v := hFl18.at hT_v (by decide) hS_v
            have hFl4 := hFl4.tr hFl18 (by decide)
            refine lv_iload_n hx hb dX9_lift_18 rfl (lv_at hl 0 rfl) ?_
            refine lv_aload_n hx hb dX9_lift_19 rfl (lv_at hl 3 rfl) ?_
            refine pl_get (ci := 9) (v := .int (nI x_14)) (C := RX9) (T := TX9) (N := 13) hx hb hT iX9 hown hK hW hT_v.1 hS_v rfl 12 (by decide) w279 rfl dX9_lift_20 ?_
            refine lv_icmp_ge (tgt := 91) hx hb dX9_lift_23 (by decide) (fun c_23 => ?_) (fun c_23 => ?_)
            · have c_23 : x_14 ≤ j := (nI_leI (a := x_14) (b := j) (by omega) (by omega)).mp c_23
              refine lv_iinc (v := nI (i + 1)) (lv' := [(2, .int (nI (i + 1))), (3, .int (nI j)), (1, .int ch2), (0, .ref v)]) hx hb dX9_lift_91 hl (k := 1) rfl (nI_add (i) 1) (by decide) rfl (fun ls hl => ?_)
              refine lv_goto (tgt := 4) hx hb dX9_lift_94 (by decide) ?_
              exact ih4 (i + 1) ch2 _ _ _ ls (by omega) (by omega) hTy hFr hFl4 hW (lv_sub hl [0, 2, 3] rfl)
            · have c_23 : ¬ (x_14 ≤ j) := fun hh9 => c_23 ((nI_leI (a := x_14) (b := j) (by omega) (by omega)).mpr hh9)
              refine lv_aload_n hx hb dX9_lift_26 rfl (lv_at hl 3 rfl) ?_
              refine pl_get (ci := 9) (v := .ref x_11) (C := RX9) (T := TX9) (N := 13) hx hb hT iX9 hown hK hW hT_v.1 hS_v rfl 9 (by decide) w276 rfl dX9_lift_27 ?_
              refine lv_iload_n hx hb dX9_lift_30 rfl (lv_at hl 1 rfl) ?_
              obtain ⟨f_26, hS_x_11, hi_f_26⟩ := hTy.k37 hT_x_11
              refine pl_iald hx hb hK hW hT_x_11.1 hS_x_11 (vp_in_nI (n := i) (N := 16) (by omega) (by omega)) dX9_lift_31 ?_
              refine lv_topi (fun y_27 ey_27 => ?_)
              have hv_y_27 := hi_f_26 (i) (by omega)
              rw [show f_26 (i) = y_27 from (ey_27.trans (by show f_26 (nI (i)).toNatClampNeg = _; rw [nI_clamp (by omega)])).symm] at hv_y_27
              refine lv_bipush (v := (-2)) hx hb dX9_lift_32 (by decide) ?_
              refine lv_icmp_eq (tgt := 85) hx hb dX9_lift_34 (by decide) (fun c_34 => ?_) (fun c_34 => ?_)
              · refine lv_iinc (v := nI (j + 2)) (lv' := [(3, .int (nI (j + 2))), (2, .int (nI i)), (1, .int ch2), (0, .ref v)]) hx hb dX9_lift_85 hl (k := 0) rfl (nI_add (j) 2) (by decide) rfl (fun ls hl => ?_)
                refine lv_goto (tgt := 18) hx hb dX9_lift_88 (by decide) ?_
                exact ih18 (j + 2) ch2 _ _ _ ls (by omega) (by omega) hTy hFr hFl18 hW (lv_sub hl [0, 1, 2, 3] rfl)
              · refine lv_aload_n hx hb dX9_lift_37 rfl (lv_at hl 3 rfl) ?_
                refine pl_get (ci := 9) (v := .ref x_11) (C := RX9) (T := TX9) (N := 13) hx hb hT iX9 hown hK hW hT_v.1 hS_v rfl 9 (by decide) w276 rfl dX9_lift_38 ?_
                refine lv_iload_n hx hb dX9_lift_41 rfl (lv_at hl 0 rfl) ?_
                refine pl_iald hx hb hK hW hT_x_11.1 hS_x_11 (vp_in_nI (n := j) (N := 16) (by omega) (by omega)) dX9_lift_42 ?_
                refine lv_topi (fun y_28 ey_28 => ?_)
                have hv_y_28 := hi_f_26 (j) (by omega)
                rw [show f_26 (j) = y_28 from (ey_28.trans (by show f_26 (nI (j)).toNatClampNeg = _; rw [nI_clamp (by omega)])).symm] at hv_y_28
                refine lv_bipush (v := (-2)) hx hb dX9_lift_43 (by decide) ?_
                refine lv_icmp_ne (tgt := 85) hx hb dX9_lift_45 (by decide) (fun c_45 => ?_) (fun c_45 => ?_)
                · refine lv_iinc (v := nI (j + 2)) (lv' := [(3, .int (nI (j + 2))), (2, .int (nI i)), (1, .int ch2), (0, .ref v)]) hx hb dX9_lift_85 hl (k := 0) rfl (nI_add (j) 2) (by decide) rfl (fun ls hl => ?_)
                  refine lv_goto (tgt := 18) hx hb dX9_lift_88 (by decide) ?_
                  exact ih18 (j + 2) ch2 _ _ _ ls (by omega) (by omega) hTy hFr hFl18 hW (lv_sub hl [0, 1, 2, 3] rfl)
                · refine lv_aload_n hx hb dX9_lift_48 rfl (lv_at hl 3 rfl) ?_
                  refine pl_get (ci := 9) (v := .ref x_8) (C := RX9) (T := TX9) (N := 13) hx hb hT iX9 hown hK hW hT_v.1 hS_v rfl 6 (by decide) w273 rfl dX9_lift_49 ?_
                  refine lv_iload_n hx hb dX9_lift_52 rfl (lv_at hl 1 rfl) ?_
                  refine lv_iload_n hx hb dX9_lift_53 rfl (lv_at hl 0 rfl) ?_
                  refine vp_callSi (va_Run.run (va_runS (As := [.int (nI i), .int (nI j)]) (rest := [.ref x_8]) ⟨hx, hb, hml, hown, hT⟩ (s_step l dC dI H.size i j (by omega) (by omega)) (va_cwS 2 hT (gS w777 w778 w11 w779) rfl rfl rfl (by decide +kernel) ⟨(Nat.le_of_ble_eq_true rfl), (Nat.le_of_ble_eq_true rfl)⟩) ⟨pcW.blind, pcW.pre (va_P0 _ _ _) (hK.sub (tys' := []) [] rfl) (va_D0 (fun _ => True))⟩ rfl rfl hl.1 rfl (lv_room (Nat.le_of_ble_eq_true rfl)) dX9_lift_54 ⟨(Nat.le_of_ble_eq_true rfl), (Nat.le_of_ble_eq_true rfl)⟩)) (fun r_29 hr_29 => ?_)
                  obtain rfl : r_29 = nI (i * 16 + j) := hr_29
                  obtain ⟨f_30, hS_x_8⟩ := hTy.k45 hT_x_8
                  refine pl_lald hx hb hK hW hT_x_8.1 hS_x_8 (vp_in_nI (n := i * 16 + j) (N := 256) (by omega) (by omega)) dX9_lift_57 ?_
                  refine lv_topl (fun y_31 ey_31 => ?_)
                  refine lv_lconst (v := 0) hx hb dX9_lift_58 (by decide) ?_
                  refine W.lcmp hx hb dX9_lift_59 ?_
                  refine lv_if_le (tgt := 85) hx hb dX9_lift_60 (by decide) (fun c_60 => ?_) (fun c_60 => ?_)
                  · refine lv_iinc (v := nI (j + 2)) (lv' := [(3, .int (nI (j + 2))), (2, .int (nI i)), (1, .int ch2), (0, .ref v)]) hx hb dX9_lift_85 hl (k := 0) rfl (nI_add (j) 2) (by decide) rfl (fun ls hl => ?_)
                    refine lv_goto (tgt := 18) hx hb dX9_lift_88 (by decide) ?_
                    exact ih18 (j + 2) ch2 _ _ _ ls (by omega) (by omega) hTy hFr hFl18 hW (lv_sub hl [0, 1, 2, 3] rfl)
                  · refine lv_iload_n hx hb dX9_lift_63 rfl (lv_at hl 2 rfl) ?_
                    refine lv_iconst (v := (-1)) hx hb dX9_lift_64 (by decide) ?_
                    refine lv_icmp_eq (tgt := 78) hx hb dX9_lift_65 (by decide) (fun c_65 => ?_) (fun c_65 => ?_)
                    · refine lv_aload_n hx hb dX9_lift_78 rfl (lv_at hl 3 rfl) ?_
                      refine lv_iload_n hx hb dX9_lift_79 rfl (lv_at hl 1 rfl) ?_
                      refine lv_iload_n hx hb dX9_lift_80 rfl (lv_at hl 0 rfl) ?_
                      refine vp_callSi (va_Run.run (va_runV (As := [.int (nI i), .int (nI j)]) (rest := []) ⟨hx, hb, hml, hown, hT⟩ (s_price l dC dI cy L kap pr S_25 H.size v i j hTy hT_v (by omega) (by omega)) (cwV 2 hT (gV w797 w799 ws39 w11 w800) rfl rfl rfl (by decide +kernel) ⟨(Nat.le_of_ble_eq_true rfl), (Nat.le_of_ble_eq_true rfl)⟩) ⟨pcN.blind, pl_recv hK hW hT_v.1 hS_v rfl, pcN.pre hW.1 hK hW.2.1 hN (fun q h => absurd h List.not_mem_nil)⟩ rfl rfl hl.1 rfl (lv_room (Nat.le_of_ble_eq_true rfl)) dX9_lift_81 ⟨(Nat.le_of_ble_eq_true rfl), (Nat.le_of_ble_eq_true rfl)⟩)) (fun r_32 hr_32 => ?_)
                      refine lv_istore_n (lv' := [(1, .int r_32), (3, .int (nI j)), (2, .int (nI i)), (0, .ref v)]) hx hb dX9_lift_84 rfl hl (by decide) rfl (fun ls hl => ?_)
                      refine lv_iinc (v := nI (j + 2)) (lv' := [(3, .int (nI (j + 2))), (1, .int r_32), (2, .int (nI i)), (0, .ref v)]) hx hb dX9_lift_85 hl (k := 1) rfl (nI_add (j) 2) (by decide) rfl (fun ls hl => ?_)
                      refine lv_goto (tgt := 18) hx hb dX9_lift_88 (by decide) ?_
                      exact ih18 (j + 2) r_32 _ _ _ ls (by omega) (by omega) hTy hFr hFl18 hW (lv_sub hl [0, 2, 1, 3] rfl)
                    · refine lv_aload_n hx hb dX9_lift_68 rfl (lv_at hl 3 rfl) ?_
                      refine lv_iload_n hx hb dX9_lift_69 rfl (lv_at hl 1 rfl) ?_
                      refine lv_iload_n hx hb dX9_lift_70 rfl (lv_at hl 0 rfl) ?_
                      refine vp_callSi (va_Run.run (va_runV (As := [.int (nI i), .int (nI j)]) (rest := []) ⟨hx, hb, hml, hown, hT⟩ (s_price l dC dI cy L kap pr S_25 H.size v i j hTy hT_v (by omega) (by omega)) (cwV 2 hT (gV w797 w799 ws39 w11 w800) rfl rfl rfl (by decide +kernel) ⟨(Nat.le_of_ble_eq_true rfl), (Nat.le_of_ble_eq_true rfl)⟩) ⟨pcN.blind, pl_recv hK hW hT_v.1 hS_v rfl, pcN.pre hW.1 hK hW.2.1 hN (fun q h => absurd h List.not_mem_nil)⟩ rfl rfl hl.1 rfl (lv_room (Nat.le_of_ble_eq_true rfl)) dX9_lift_71 ⟨(Nat.le_of_ble_eq_true rfl), (Nat.le_of_ble_eq_true rfl)⟩)) (fun r_33 hr_33 => ?_)
                      refine lv_iload_n hx hb dX9_lift_74 rfl (lv_at hl 2 rfl) ?_
                      refine lv_icmp_ge (tgt := 85) hx hb dX9_lift_75 (by decide) (fun c_75 => ?_) (fun c_75 => ?_)
                      · refine lv_iinc (v := nI (j + 2)) (lv' := [(3, .int (nI (j + 2))), (2, .int (nI i)), (1, .int ch2), (0, .ref v)]) hx hb dX9_lift_85 hl (k := 0) rfl (nI_add (j) 2) (by decide) rfl (fun ls hl => ?_)
                        refine lv_goto (tgt := 18) hx hb dX9_lift_88 (by decide) ?_
                        exact ih18 (j + 2) ch2 _ _ _ ls (by omega) (by omega) hTy hFr hFl18 hW (lv_sub hl [0, 1, 2, 3] rfl)
                      · refine lv_aload_n hx hb dX9_lift_78 rfl (lv_at hl 3 rfl) ?_
                        refine lv_iload_n hx hb dX9_lift_79 rfl (lv_at hl 1 rfl) ?_
                        refine lv_iload_n hx hb dX9_lift_80 rfl (lv_at hl 0 rfl) ?_
                        refine vp_callSi (va_Run.run (va_runV (As := [.int (nI i), .int (nI j)]) (rest := []) ⟨hx, hb, hml, hown, hT⟩ (s_price l dC dI cy L kap pr S_25 H.size v i j hTy hT_v (by omega) (by omega)) (cwV 2 hT (gV w797 w799 ws39 w11 w800) rfl rfl rfl (by decide +kernel) ⟨(Nat.le_of_ble_eq_true rfl), (Nat.le_of_ble_eq_true rfl)⟩) ⟨pcN.blind, pl_recv hK hW hT_v.1 hS_v rfl, pcN.pre hW.1 hK hW.2.1 hN (fun q h => absurd h List.not_mem_nil)⟩ rfl rfl hl.1 rfl (lv_room (Nat.le_of_ble_eq_true rfl)) dX9_lift_81 ⟨(Nat.le_of_ble_eq_true rfl), (Nat.le_of_ble_eq_true rfl)⟩)) (fun r_34 hr_34 => ?_)
                        refine lv_istore_n (lv' := [(1, .int r_34), (3, .int (nI j)), (2, .int (nI i)), (0, .ref v)]) hx hb dX9_lift_84 rfl hl (by decide) rfl (fun ls hl => ?_)
                        refine lv_iinc (v := nI (j + 2)) (lv' := [(3, .int (nI (j + 2))), (1, .int r_34), (2, .int (nI i)), (0, .ref v)]) hx hb dX9_lift_85 hl (k := 1) rfl (nI_add (j) 2) (by decide) rfl (fun ls hl => ?_)
                        refine lv_goto (tgt := 18) hx hb dX9_lift_88 (by decide) ?_
                        exact ih18 (j + 2) r_34 _ _ _ ls (by omega) (by omega) hTy hFr hFl18 hW (lv_sub hl [0, 2, 1, 3] rfl)
        exact loop ((18 - (1 - (i % 2))) + 1) (1 - (i % 2)) ch _ _ _ ls (Nat.lt_succ_self _) (by omega) hTy hFr Fr.rf hW (lv_sub hl [0, 1, 2, 3] rfl)
  exact loop ((17 - 0) + 1) 0 (-1) _ _ _ ls (Nat.lt_succ_self _) (by omega) hTy hFr Fr.rf hW (lv_sub hl [0, 1, 2] rfl)

set_option maxHeartbeats 4000000 in
set_option maxRecDepth 100000 in
theorem s_ship (l : Launch) (dC : Nat → ClassId) (dI : Nat → Nat → Nat) (cy : Nat → ClassId) (L : List Nat) (kap : Nat → Nat) (pr : Pr) (S : Nat → va_E) (sz : Nat) (v : Nat) (lf : Int32) (hTy : Ty cy L kap pr S) (hT_v : TK L kap v 9) : Met l yX9_ship (wT yX9_ship cX9_ship 4 none) ({ frames := 2, cells := 0, slots := 0, locals := 65 }) (pcN dC dI [.ref v, .int lf] sz (va_pl L S) (cyT cy) NLs []) (va_Qv (fun S' => Ty cy L kap pr S' ∧ Fr kap [35, 36, 37, 38, 45] S S') (fun S' t => pB dC dI (AL L sz) (va_pl L S') (cyT cy) t) (AL L sz)) 0 0 (AL L sz) := by
  refine Met.ofW (cc := cX9_ship) (maxL := 4) (ret := none) (by decide) rfl ?_
  intro p e s m args below meth c s₁ B hml hv
  obtain ⟨rfl, hsz, hP, hK, hD0, hN, -⟩ := hv
  have hx := B.exec
  have hb := B.bytes
  have hr := B.returns
  have hT : ∀ wd ∈ TB, wd.before [.ref v, .int lf].toArray s = true := fun wd h => atoms_spec (ws := wT yX9_ship cX9_ship 4 none) B.pre wd (List.mem_cons_of_mem _ h)
  have hown : s.vm.findClass RX9 = some m.cls := findClass_of_methodNamed B.named
  have hlocks := B.notSynchronized
  subst hsz
  have hW : PW dC dI L (AL L s.heap.size) s.heap S s.heap [] := ⟨hP, pl_self hD0, va_S.rf⟩
  have hA0 : ∀ q, q ∈ L → AL L s.heap.size q := fun _ h => Or.inl h
  have hA : ∀ q, s.heap.size ≤ q → AL L s.heap.size q := fun _ h => Or.inr h
  have hFr : Fr kap [35, 36, 37, 38, 45] S S := Fr.rf
  have hl := lv_entry ([.ref v, .int lf]) (n := 4) (Nat.le_of_ble_eq_true rfl)
  rw [lg_entry_eq]
  generalize (lg_sl ([.ref v, .int lf]) ++ List.replicate (4 - (lg_sl ([.ref v, .int lf])).length) Slot.unset).toArray = ls at hl ⊢
  have hl : lv_has ls 4 [(0, .ref v), (1, .int lf)] := hl
  refine lv_iconst (v := 0) hx hb dX9_ship_0 (by decide) ?_
  refine lv_istore_n (lv' := [(2, .int 0), (0, .ref v), (1, .int lf)]) hx hb dX9_ship_1 rfl hl (by decide) rfl (fun ls hl => ?_)
  have loop : ∀ (fuel : Nat) (i : Nat) (SS : Nat → va_E) (H : Heap) (locs : List Loc) (ls : Array Slot), 1000001 - i < fuel → (i ≤ 1000000) → Ty cy L kap pr SS → Fr kap [35, 36, 37, 38, 45] S SS → Fr kap [35, 36, 37, 38, 45] S SS → PW dC dI L (AL L s.heap.size) s.heap SS H locs → lv_has ls 4 [(2, .int (nI i)), (0, .ref v), (1, .int lf)] → W p l e (headSpec (wT yX9_ship cX9_ship 4 none) { frames := 2, cells := 0, slots := 0, locals := 65 }).room s m [.ref v, .int lf].toArray below meth c H locs 0 0 (MQ below (va_Qv (fun S' => Ty cy L kap pr S' ∧ Fr kap [35, 36, 37, 38, 45] S S') (fun S' t => pB dC dI (AL L s.heap.size) (va_pl L S') (cyT cy) t) (AL L s.heap.size)) [.ref v, .int lf].toArray s 0 0 (AL L s.heap.size)) (F0 m 2 ls []) := by
    intro fuel
    induction fuel with
    | zero => intro i SS H locs ls h; exact absurd h (Nat.not_lt_zero _)
    | succ fu2 ih2 =>
      intro i S_1 H locs ls hm2 hb_i hTy hFr hFl2 hW hl
      refine lv_iload_n hx hb dX9_ship_2 rfl (lv_at hl 0 rfl) ?_
      refine lv_ldc (v := 1000000) hx hb hown (hT _ w792) dX9_ship_3 ?_
      refine lv_icmp_ge (tgt := 44) hx hb dX9_ship_5 (by decide) (fun c_5 => ?_) (fun c_5 => ?_)
      · have c_5 : 1000000 ≤ i := (nI_leI (a := 1000000) (b := i) (by omega) (by omega)).mp c_5
        exact W.vret hx hb hr (fun t ht h9 => ⟨⟨S_1, rfl, ⟨hTy, hFr⟩, by rw [ht]; exact hW.1, va_K.moved h9.alike hK, hW.2.1⟩, hW.2.2.F ht⟩) hW.2.2.2.2 dX9_ship_44
      · have c_5 : ¬ (1000000 ≤ i) := fun hh9 => c_5 ((nI_leI (a := 1000000) (b := i) (by omega) (by omega)).mpr hh9)
        refine lv_aload_n hx hb dX9_ship_8 rfl (lv_at hl 1 rfl) ?_
        obtain ⟨x_2, x_3, x_4, x_5, x_6, x_7, x_8, x_9, x_10, x_11, x_12, x_13, x_14, hS_v, hT_x_2, hT_x_3, hT_x_6, hT_x_7, hT_x_8, hT_x_9, hT_x_10, hT_x_11, hT_x_12, hb_x_13, hb_x_14⟩ := hTy.k9 hT_v
        refine pl_calli (va_runV (As := []) (rest := []) ⟨hx, hb, hml, hown, hT⟩ (s_search l dC dI cy L kap pr S_1 H.size v hTy hT_v) (cwV 0 hT (gV w793 w795 ws38 w11 w796) rfl rfl rfl (by decide +kernel) ⟨(Nat.le_of_ble_eq_true rfl), (Nat.le_of_ble_eq_true rfl)⟩) ⟨pcN.blind, pl_recv hK hW hT_v.1 hS_v rfl, pcN.pre hW.1 hK hW.2.1 hN (fun q h => absurd h List.not_mem_nil)⟩ rfl rfl hl.1 rfl (lv_room (Nat.le_of_ble_eq_true rfl)) dX9_ship_9 ⟨(Nat.le_of_ble_eq_true rfl), (Nat.le_of_ble_eq_true rfl)⟩) hW hA0 hA (fun r_16 S_15 H locs hrel hW => ?_)
        obtain ⟨hTy, hF1, hx1⟩ := hrel
        have hFr := hFr.tr hF1 (by decide)
        have hFl2 := hFl2.tr hF1 (by decide)
        have hS_v := hF1.at hT_v (by decide) hS_v
        have hgo := hx1
        refine lv_istore_n (lv' := [(3, .int r_16), (2, .int (nI i)), (0, .ref v), (1, .int lf)]) hx hb dX9_ship_12 rfl hl (by decide) rfl (fun ls hl => ?_)
        refine lv_iload_n hx hb dX9_ship_13 rfl (lv_at hl 0 rfl) ?_
        refine lv_iconst (v := (-1)) hx hb dX9_ship_14 (by decide) ?_
        refine lv_icmp_eq (tgt := 26) hx hb dX9_ship_15 (by decide) (fun c_15 => ?_) (fun c_15 => ?_)
        · refine lv_iload_n hx hb dX9_ship_26 rfl (lv_at hl 3 rfl) ?_
          refine lv_if_eq (tgt := 37) hx hb dX9_ship_27 (by decide) (fun c_27 => ?_) (fun c_27 => ?_)
          · exact W.vret hx hb hr (fun t ht h9 => ⟨⟨S_15, rfl, ⟨hTy, hFr⟩, by rw [ht]; exact hW.1, va_K.moved h9.alike hK, hW.2.1⟩, hW.2.2.F ht⟩) hW.2.2.2.2 dX9_ship_37
          · refine lv_aload_n hx hb dX9_ship_30 rfl (lv_at hl 2 rfl) ?_
            refine pl_calli (va_runV (As := []) (rest := []) ⟨hx, hb, hml, hown, hT⟩ (s_lift l dC dI cy L kap pr S_15 H.size v hTy hT_v) (cwV 0 hT (gV w805 w807 ws41 w11 w808) rfl rfl rfl (by decide +kernel) ⟨(Nat.le_of_ble_eq_true rfl), (Nat.le_of_ble_eq_true rfl)⟩) ⟨pcN.blind, pl_recv hK hW hT_v.1 hS_v rfl, pcN.pre hW.1 hK hW.2.1 hN (fun q h => absurd h List.not_mem_nil)⟩ rfl rfl hl.1 rfl (lv_room (Nat.le_of_ble_eq_true rfl)) dX9_ship_31 ⟨(Nat.le_of_ble_eq_true rfl), (Nat.le_of_ble_eq_true rfl)⟩) hW hA0 hA (fun r_18 S_17 H locs hrel hW => ?_)
            obtain ⟨hTy, hF1, hx1⟩ := hrel
            have hFr := hFr.tr hF1 (by decide)
            have hFl2 := hFl2.tr hF1 (by decide)
            have hS_v := hF1.at hT_v (by decide) hS_v
            refine lv_if_ne (tgt := 38) hx hb dX9_ship_34 (by decide) (fun c_34 => ?_) (fun c_34 => ?_)
            · refine lv_iinc (v := nI (i + 1)) (lv' := [(2, .int (nI (i + 1))), (3, .int r_16), (0, .ref v), (1, .int lf)]) hx hb dX9_ship_38 hl (k := 1) rfl (nI_add (i) 1) (by decide) rfl (fun ls hl => ?_)
              refine lv_goto (tgt := 2) hx hb dX9_ship_41 (by decide) ?_
              exact ih2 (i + 1) _ _ _ ls (by omega) (by omega) hTy hFr hFl2 hW (lv_sub hl [0, 2, 3] rfl)
            · exact W.vret hx hb hr (fun t ht h9 => ⟨⟨S_17, rfl, ⟨hTy, hFr⟩, by rw [ht]; exact hW.1, va_K.moved h9.alike hK, hW.2.1⟩, hW.2.2.F ht⟩) hW.2.2.2.2 dX9_ship_37
        · obtain ⟨kg, hkg, rfl⟩ := hgo.resolve_left c_15
          refine lv_aload_n hx hb dX9_ship_18 rfl (lv_at hl 2 rfl) ?_
          refine lv_iload_n hx hb dX9_ship_19 rfl (lv_at hl 0 rfl) ?_
          refine pl_callv (va_runV (As := [.int (nI kg)]) (rest := []) ⟨hx, hb, hml, hown, hT⟩ (s_carry l dC dI cy L kap pr S_15 H.size v kg hTy hT_v (by omega)) (cwV 1 hT (gV w801 w803 ws40 w11 w804) rfl rfl rfl (by decide +kernel) ⟨(Nat.le_of_ble_eq_true rfl), (Nat.le_of_ble_eq_true rfl)⟩) ⟨pcN.blind, pl_recv hK hW hT_v.1 hS_v rfl, pcN.pre hW.1 hK hW.2.1 hN (fun q h => absurd h List.not_mem_nil)⟩ rfl rfl hl.1 rfl (lv_room (Nat.le_of_ble_eq_true rfl)) dX9_ship_20 ⟨(Nat.le_of_ble_eq_true rfl), (Nat.le_of_ble_eq_true rfl)⟩) hW hA0 hA (fun S_19 H locs hrel hW => ?_)
          obtain ⟨hTy, hF1⟩ := hrel
          have hFr := hFr.tr hF1 (by decide)
          have hFl2 := hFl2.tr hF1 (by decide)
          have hS_v := hF1.at hT_v (by decide) hS_v
          refine lv_goto (tgt := 38) hx hb dX9_ship_23 (by decide) ?_
          refine lv_iinc (v := nI (i + 1)) (lv' := [(2, .int (nI (i + 1))), (3, .int (nI kg)), (0, .ref v), (1, .int lf)]) hx hb dX9_ship_38 hl (k := 1) rfl (nI_add (i) 1) (by decide) rfl (fun ls hl => ?_)
          refine lv_goto (tgt := 2) hx hb dX9_ship_41 (by decide) ?_
          exact ih2 (i + 1) _ _ _ ls (by omega) (by omega) hTy hFr hFl2 hW (lv_sub hl [0, 2, 3] rfl)
  exact loop ((1000001 - 0) + 1) 0 _ _ _ ls (Nat.lt_succ_self _) (by omega) hTy hFr Fr.rf hW (lv_sub hl [0, 1, 2] rfl)

set_option maxHeartbeats 4000000 in
set_option maxRecDepth 100000 in
theorem s_move (l : Launch) (dC : Nat → ClassId) (dI : Nat → Nat → Nat) (cy : Nat → ClassId) (L : List Nat) (kap : Nat → Nat) (pr : Pr) (S : Nat → va_E) (sz : Nat) (v : Nat) (a : Nat) (c2 : Nat) (x : Int64) (hTy : Ty cy L kap pr S) (hT_v : TK L kap v 9) (hb_a : a < 16) (hb_c2 : c2 < 16) : Met l yX9_move (wT yX9_move cX9_move 5 (some .long)) ({ frames := 3, cells := 0, slots := 0, locals := 88 }) (pcN dC dI [.ref v, .int (nI a), .int (nI c2), .long x] sz (va_pl L S) (cyT cy) NLs []) (va_Ql (fun r S' => Ty cy L kap pr S' ∧ Fr kap [35, 36, 37, 38, 45] S S') (fun S' t => pB dC dI (AL L sz) (va_pl L S') (cyT cy) t) (AL L sz)) 0 0 (AL L sz) := by
  refine Met.ofW (cc := cX9_move) (maxL := 5) (ret := (some .long)) (by decide) rfl ?_
  intro p e s m args below meth c s₁ B hml hv
  obtain ⟨rfl, hsz, hP, hK, hD0, hN, -⟩ := hv
  have hx := B.exec
  have hb := B.bytes
  have hr := B.returns
  have hT : ∀ wd ∈ TB, wd.before [.ref v, .int (nI a), .int (nI c2), .long x].toArray s = true := fun wd h => atoms_spec (ws := wT yX9_move cX9_move 5 (some .long)) B.pre wd (List.mem_cons_of_mem _ h)
  have hown : s.vm.findClass RX9 = some m.cls := findClass_of_methodNamed B.named
  have hlocks := B.notSynchronized
  subst hsz
  have hW : PW dC dI L (AL L s.heap.size) s.heap S s.heap [] := ⟨hP, pl_self hD0, va_S.rf⟩
  have hA0 : ∀ q, q ∈ L → AL L s.heap.size q := fun _ h => Or.inl h
  have hA : ∀ q, s.heap.size ≤ q → AL L s.heap.size q := fun _ h => Or.inr h
  have hFr : Fr kap [35, 36, 37, 38, 45] S S := Fr.rf
  have hl := lv_entry ([.ref v, .int (nI a), .int (nI c2), .long x]) (n := 5) (Nat.le_of_ble_eq_true rfl)
  rw [lg_entry_eq]
  generalize (lg_sl ([.ref v, .int (nI a), .int (nI c2), .long x]) ++ List.replicate (5 - (lg_sl ([.ref v, .int (nI a), .int (nI c2), .long x])).length) Slot.unset).toArray = ls at hl ⊢
  have hl : lv_has ls 5 [(0, .ref v), (1, .int (nI a)), (2, .int (nI c2)), (3, .long x)] := hl
  refine lv_aload_n hx hb dX9_move_0 rfl (lv_at hl 0 rfl) ?_
  obtain ⟨x_1, x_2, x_3, x_4, x_5, x_6, x_7, x_8, x_9, x_10, x_11, x_12, x_13, hS_v, hT_x_1, hT_x_2, hT_x_5, hT_x_6, hT_x_7, hT_x_8, hT_x_9, hT_x_10, hT_x_11, hb_x_12, hb_x_13⟩ := hTy.k9 hT_v
  refine pl_get (ci := 9) (v := .ref x_9) (C := RX9) (T := TX9) (N := 13) hx hb hT iX9 hown hK hW hT_v.1 hS_v rfl 8 (by decide) w275 rfl dX9_move_1 ?_
  refine lv_lconst (v := 0) hx hb dX9_move_4 (by decide) ?_
  refine pl_callv (va_runS (As := [.ref x_9, .long 0]) (rest := []) ⟨hx, hb, hml, hown, hT⟩ (s_fillJ36 l dC dI cy L kap pr S s.heap.size x_9 0 hTy hT_x_9) (va_cwS 2 hT (gS w737 w678 w6 w679) rfl rfl rfl (by decide +kernel) ⟨(Nat.le_of_ble_eq_true rfl), (Nat.le_of_ble_eq_true rfl)⟩) ⟨pcN.blind, pcN.pre hW.1 hK hW.2.1 hN (fun q h => absurd h List.not_mem_nil)⟩ rfl rfl hl.1 rfl (lv_room (Nat.le_of_ble_eq_true rfl)) dX9_move_5 ⟨(Nat.le_of_ble_eq_true rfl), (Nat.le_of_ble_eq_true rfl)⟩) hW hA0 hA (fun S_14 H locs hrel hW => ?_)
  obtain ⟨hTy, hF1⟩ := hrel
  have hFr := hFr.tr hF1 (by decide)
  have hS_v := hF1.at hT_v (by decide) hS_v
  refine lv_aload_n hx hb dX9_move_8 rfl (lv_at hl 0 rfl) ?_
  refine pl_get (ci := 9) (v := .ref x_9) (C := RX9) (T := TX9) (N := 13) hx hb hT iX9 hown hK hW hT_v.1 hS_v rfl 8 (by decide) w275 rfl dX9_move_9 ?_
  refine lv_iload_n hx hb dX9_move_12 rfl (lv_at hl 1 rfl) ?_
  refine lv_lload_n hx hb dX9_move_13 rfl (lv_at hl 3 rfl) ?_
  obtain ⟨f_15, hS_x_9⟩ := hTy.k36 hT_x_9
  refine pl_last hx hb hK hW hT_x_9.1 hS_x_9 (vp_in_nI (n := a) (N := 16) (by omega) (by omega)) dX9_move_14 (fun H locs f_17 S_16 ef_f_17 e1 hW => ?_)
  have hTy := hTy.u36 e1 hT_x_9 ⟨f_17, rfl⟩
  have hS_v := un e1 hT_v hT_x_9 (by decide) hS_v
  have hFr := uf hFr e1 hT_x_9 (by decide) (by decide)
  have hS_x_9 := us e1
  refine lv_aload_n hx hb dX9_move_15 rfl (lv_at hl 0 rfl) ?_
  refine pl_get (ci := 9) (v := .ref x_9) (C := RX9) (T := TX9) (N := 13) hx hb hT iX9 hown hK hW hT_v.1 hS_v rfl 8 (by decide) w275 rfl dX9_move_16 ?_
  refine lv_iload_n hx hb dX9_move_19 rfl (lv_at hl 2 rfl) ?_
  refine lv_lload_n hx hb dX9_move_20 rfl (lv_at hl 3 rfl) ?_
  refine lv_lneg hx hb dX9_move_21 ?_
  refine lv_topl (fun z_18 ez_18 => ?_)
  refine pl_last hx hb hK hW hT_x_9.1 hS_x_9 (vp_in_nI (n := c2) (N := 16) (by omega) (by omega)) dX9_move_22 (fun H locs f_20 S_19 ef_f_20 e1 hW => ?_)
  have hTy := hTy.u36 e1 hT_x_9 ⟨f_20, rfl⟩
  have hS_v := un e1 hT_v hT_x_9 (by decide) hS_v
  have hFr := uf hFr e1 hT_x_9 (by decide) (by decide)
  have hS_x_9 := us e1
  refine lv_aload_n hx hb dX9_move_23 rfl (lv_at hl 0 rfl) ?_
  refine lv_iconst (v := 0) hx hb dX9_move_24 (by decide) ?_
  refine pl_callv (va_runV (As := [.int 0]) (rest := []) ⟨hx, hb, hml, hown, hT⟩ (s_ship l dC dI cy L kap pr S_19 H.size v 0 hTy hT_v) (cwV 1 hT (gV w788 w790 ws37 w11 w791) rfl rfl rfl (by decide +kernel) ⟨(Nat.le_of_ble_eq_true rfl), (Nat.le_of_ble_eq_true rfl)⟩) ⟨pcN.blind, pl_recv hK hW hT_v.1 hS_v rfl, pcN.pre hW.1 hK hW.2.1 hN (fun q h => absurd h List.not_mem_nil)⟩ rfl rfl hl.1 rfl (lv_room (Nat.le_of_ble_eq_true rfl)) dX9_move_25 ⟨(Nat.le_of_ble_eq_true rfl), (Nat.le_of_ble_eq_true rfl)⟩) hW hA0 hA (fun S_21 H locs hrel hW => ?_)
  obtain ⟨hTy, hF1⟩ := hrel
  have hFr := hFr.tr hF1 (by decide)
  have hS_v := hF1.at hT_v (by decide) hS_v
  refine lv_lload_n hx hb dX9_move_28 rfl (lv_at hl 3 rfl) ?_
  refine lv_aload_n hx hb dX9_move_29 rfl (lv_at hl 0 rfl) ?_
  refine pl_get (ci := 9) (v := .ref x_9) (C := RX9) (T := TX9) (N := 13) hx hb hT iX9 hown hK hW hT_v.1 hS_v rfl 8 (by decide) w275 rfl dX9_move_30 ?_
  refine lv_iload_n hx hb dX9_move_33 rfl (lv_at hl 1 rfl) ?_
  obtain ⟨f_22, hS_x_9⟩ := hTy.k36 hT_x_9
  refine pl_lald hx hb hK hW hT_x_9.1 hS_x_9 (vp_in_nI (n := a) (N := 16) (by omega) (by omega)) dX9_move_34 ?_
  refine lv_topl (fun y_23 ey_23 => ?_)
  refine lv_lsub hx hb dX9_move_35 ?_
  refine lv_topl (fun z_24 ez_24 => ?_)
  exact W.lret (v := z_24) hx hb hr (fun t ht h9 => ⟨⟨z_24, S_21, rfl, ⟨hTy, hFr⟩, by rw [ht]; exact hW.1, va_K.moved h9.alike hK, hW.2.1⟩, hW.2.2.F ht⟩) hW.2.2.2.2 dX9_move_36

set_option maxHeartbeats 4000000 in
set_option maxRecDepth 100000 in
theorem s_shut (l : Launch) (dC : Nat → ClassId) (dI : Nat → Nat → Nat) (cy : Nat → ClassId) (L : List Nat) (kap : Nat → Nat) (pr : Pr) (S : Nat → va_E) (sz : Nat) (v : Nat) (a : Nat) (c2 : Nat) (up : Int32) (hTy : Ty cy L kap pr S) (hT_v : TK L kap v 9) (hb_a : a < 8) (hb_c2 : c2 < 8) : Met l yX9_shutFarthest (wT yX9_shutFarthest cX9_shutFarthest 10 (some .long)) ({ frames := 4, cells := 0, slots := 0, locals := 112 }) (pcN dC dI [.ref v, .int (nI a), .int (nI c2), .int up] sz (va_pl L S) (cyT cy) NLs []) (va_Ql (fun r S' => Ty cy L kap pr S' ∧ Fr kap [35, 36, 37, 38, 45] S S') (fun S' t => pB dC dI (AL L sz) (va_pl L S') (cyT cy) t) (AL L sz)) 0 0 (AL L sz) := by
  refine Met.ofW (cc := cX9_shutFarthest) (maxL := 10) (ret := (some .long)) (by decide) rfl ?_
  intro p e s m args below meth c s₁ B hml hv
  obtain ⟨rfl, hsz, hP, hK, hD0, hN, -⟩ := hv
  have hx := B.exec
  have hb := B.bytes
  have hr := B.returns
  have hT : ∀ wd ∈ TB, wd.before [.ref v, .int (nI a), .int (nI c2), .int up].toArray s = true := fun wd h => atoms_spec (ws := wT yX9_shutFarthest cX9_shutFarthest 10 (some .long)) B.pre wd (List.mem_cons_of_mem _ h)
  have hown : s.vm.findClass RX9 = some m.cls := findClass_of_methodNamed B.named
  have hlocks := B.notSynchronized
  subst hsz
  have hW : PW dC dI L (AL L s.heap.size) s.heap S s.heap [] := ⟨hP, pl_self hD0, va_S.rf⟩
  have hA0 : ∀ q, q ∈ L → AL L s.heap.size q := fun _ h => Or.inl h
  have hA : ∀ q, s.heap.size ≤ q → AL L s.heap.size q := fun _ h => Or.inr h
  have hFr : Fr kap [35, 36, 37, 38, 45] S S := Fr.rf
  have hl := lv_entry ([.ref v, .int (nI a), .int (nI c2), .int up]) (n := 10) (Nat.le_of_ble_eq_true rfl)
  rw [lg_entry_eq]
  generalize (lg_sl ([.ref v, .int (nI a), .int (nI c2), .int up]) ++ List.replicate (10 - (lg_sl ([.ref v, .int (nI a), .int (nI c2), .int up])).length) Slot.unset).toArray = ls at hl ⊢
  have hl : lv_has ls 10 [(0, .ref v), (1, .int (nI a)), (2, .int (nI c2)), (3, .int up)] := hl
  refine lv_iload_n hx hb dX9_shutFarthest_0 rfl (lv_at hl 1 rfl) ?_
  refine vp_callSi (va_Run.run (va_runS (As := [.int (nI a)]) (rest := []) ⟨hx, hb, hml, hown, hT⟩ (s_out l dC dI s.heap.size a (by omega)) (va_cwS 1 hT (gS w774 w775 w11 w776) rfl rfl rfl (by decide +kernel) ⟨(Nat.le_of_ble_eq_true rfl), (Nat.le_of_ble_eq_true rfl)⟩) ⟨pcW.blind, pcW.pre (va_P0 _ _ _) (hK.sub (tys' := []) [] rfl) (va_D0 (fun _ => True))⟩ rfl rfl hl.1 rfl (lv_room (Nat.le_of_ble_eq_true rfl)) dX9_shutFarthest_1 ⟨(Nat.le_of_ble_eq_true rfl), (Nat.le_of_ble_eq_true rfl)⟩)) (fun r_1 hr_1 => ?_)
  obtain rfl : r_1 = nI (2 * a + 1) := hr_1
  refine lv_istore (lv' := [(4, .int (nI (2 * a + 1))), (0, .ref v), (1, .int (nI a)), (2, .int (nI c2)), (3, .int up)]) hx hb dX9_shutFarthest_4 hl (by decide) rfl (fun ls hl => ?_)
  refine lv_iload_n hx hb dX9_shutFarthest_6 rfl (lv_at hl 3 rfl) ?_
  refine vp_callSi (va_Run.run (va_runS (As := [.int (nI c2)]) (rest := []) ⟨hx, hb, hml, hown, hT⟩ (s_in l dC dI s.heap.size c2 (by omega)) (va_cwS 1 hT (gS w771 w772 w11 w773) rfl rfl rfl (by decide +kernel) ⟨(Nat.le_of_ble_eq_true rfl), (Nat.le_of_ble_eq_true rfl)⟩) ⟨pcW.blind, pcW.pre (va_P0 _ _ _) (hK.sub (tys' := []) [] rfl) (va_D0 (fun _ => True))⟩ rfl rfl hl.1 rfl (lv_room (Nat.le_of_ble_eq_true rfl)) dX9_shutFarthest_7 ⟨(Nat.le_of_ble_eq_true rfl), (Nat.le_of_ble_eq_true rfl)⟩)) (fun r_2 hr_2 => ?_)
  obtain rfl : r_2 = nI (2 * c2) := hr_2
  refine lv_istore (lv' := [(5, .int (nI (2 * c2))), (4, .int (nI (2 * a + 1))), (0, .ref v), (1, .int (nI a)), (2, .int (nI c2)), (3, .int up)]) hx hb dX9_shutFarthest_10 hl (by decide) rfl (fun ls hl => ?_)
  refine lv_aload_n hx hb dX9_shutFarthest_12 rfl (lv_at hl 2 rfl) ?_
  obtain ⟨x_3, x_4, x_5, x_6, x_7, x_8, x_9, x_10, x_11, x_12, x_13, x_14, x_15, hS_v, hT_x_3, hT_x_4, hT_x_7, hT_x_8, hT_x_9, hT_x_10, hT_x_11, hT_x_12, hT_x_13, hb_x_14, hb_x_15⟩ := hTy.k9 hT_v
  refine pl_get (ci := 9) (v := .ref x_9) (C := RX9) (T := TX9) (N := 13) hx hb hT iX9 hown hK hW hT_v.1 hS_v rfl 6 (by decide) w273 rfl dX9_shutFarthest_13 ?_
  refine lv_iload hx hb dX9_shutFarthest_16 (lv_at hl 0 rfl) ?_
  refine lv_iload hx hb dX9_shutFarthest_18 (lv_at hl 1 rfl) ?_
  refine vp_callSi (va_Run.run (va_runS (As := [.int (nI (2 * c2)), .int (nI (2 * a + 1))]) (rest := [.ref x_9]) ⟨hx, hb, hml, hown, hT⟩ (s_step l dC dI s.heap.size (2 * c2) (2 * a + 1) (by omega) (by omega)) (va_cwS 2 hT (gS w777 w778 w11 w779) rfl rfl rfl (by decide +kernel) ⟨(Nat.le_of_ble_eq_true rfl), (Nat.le_of_ble_eq_true rfl)⟩) ⟨pcW.blind, pcW.pre (va_P0 _ _ _) (hK.sub (tys' := []) [] rfl) (va_D0 (fun _ => True))⟩ rfl rfl hl.1 rfl (lv_room (Nat.le_of_ble_eq_true rfl)) dX9_shutFarthest_20 ⟨(Nat.le_of_ble_eq_true rfl), (Nat.le_of_ble_eq_true rfl)⟩)) (fun r_16 hr_16 => ?_)
  obtain rfl : r_16 = nI ((2 * c2) * 16 + (2 * a + 1)) := hr_16
  obtain ⟨f_17, hS_x_9⟩ := hTy.k45 hT_x_9
  refine pl_lald hx hb hK hW hT_x_9.1 hS_x_9 (vp_in_nI (n := (2 * c2) * 16 + (2 * a + 1)) (N := 256) (by omega) (by omega)) dX9_shutFarthest_23 ?_
  refine lv_topl (fun y_18 ey_18 => ?_)
  refine lv_lstore (lv' := [(6, .long y_18), (5, .int (nI (2 * c2))), (4, .int (nI (2 * a + 1))), (0, .ref v), (1, .int (nI a)), (2, .int (nI c2)), (3, .int up)]) hx hb dX9_shutFarthest_24 hl (by decide) rfl (fun ls hl => ?_)
  refine lv_aload_n hx hb dX9_shutFarthest_26 rfl (lv_at hl 3 rfl) ?_
  refine pl_get (ci := 9) (v := .ref x_9) (C := RX9) (T := TX9) (N := 13) hx hb hT iX9 hown hK hW hT_v.1 hS_v rfl 6 (by decide) w273 rfl dX9_shutFarthest_27 ?_
  refine lv_iload hx hb dX9_shutFarthest_30 (lv_at hl 2 rfl) ?_
  refine lv_iload hx hb dX9_shutFarthest_32 (lv_at hl 1 rfl) ?_
  refine vp_callSi (va_Run.run (va_runS (As := [.int (nI (2 * a + 1)), .int (nI (2 * c2))]) (rest := [.ref x_9]) ⟨hx, hb, hml, hown, hT⟩ (s_step l dC dI s.heap.size (2 * a + 1) (2 * c2) (by omega) (by omega)) (va_cwS 2 hT (gS w777 w778 w11 w779) rfl rfl rfl (by decide +kernel) ⟨(Nat.le_of_ble_eq_true rfl), (Nat.le_of_ble_eq_true rfl)⟩) ⟨pcW.blind, pcW.pre (va_P0 _ _ _) (hK.sub (tys' := []) [] rfl) (va_D0 (fun _ => True))⟩ rfl rfl hl.1 rfl (lv_room (Nat.le_of_ble_eq_true rfl)) dX9_shutFarthest_34 ⟨(Nat.le_of_ble_eq_true rfl), (Nat.le_of_ble_eq_true rfl)⟩)) (fun r_19 hr_19 => ?_)
  obtain rfl : r_19 = nI ((2 * a + 1) * 16 + (2 * c2)) := hr_19
  refine pl_lald hx hb hK hW hT_x_9.1 hS_x_9 (vp_in_nI (n := (2 * a + 1) * 16 + (2 * c2)) (N := 256) (by omega) (by omega)) dX9_shutFarthest_37 ?_
  refine lv_topl (fun y_20 ey_20 => ?_)
  refine lv_lstore (lv' := [(8, .long y_20), (6, .long y_18), (5, .int (nI (2 * c2))), (4, .int (nI (2 * a + 1))), (0, .ref v), (1, .int (nI a)), (2, .int (nI c2)), (3, .int up)]) hx hb dX9_shutFarthest_38 hl (by decide) rfl (fun ls hl => ?_)
  refine lv_aload_n hx hb dX9_shutFarthest_40 rfl (lv_at hl 4 rfl) ?_
  refine pl_get (ci := 9) (v := .ref x_9) (C := RX9) (T := TX9) (N := 13) hx hb hT iX9 hown hK hW hT_v.1 hS_v rfl 6 (by decide) w273 rfl dX9_shutFarthest_41 ?_
  refine lv_iload hx hb dX9_shutFarthest_44 (lv_at hl 2 rfl) ?_
  refine lv_iload hx hb dX9_shutFarthest_46 (lv_at hl 3 rfl) ?_
  refine vp_callSi (va_Run.run (va_runS (As := [.int (nI (2 * c2)), .int (nI (2 * a + 1))]) (rest := [.ref x_9]) ⟨hx, hb, hml, hown, hT⟩ (s_step l dC dI s.heap.size (2 * c2) (2 * a + 1) (by omega) (by omega)) (va_cwS 2 hT (gS w777 w778 w11 w779) rfl rfl rfl (by decide +kernel) ⟨(Nat.le_of_ble_eq_true rfl), (Nat.le_of_ble_eq_true rfl)⟩) ⟨pcW.blind, pcW.pre (va_P0 _ _ _) (hK.sub (tys' := []) [] rfl) (va_D0 (fun _ => True))⟩ rfl rfl hl.1 rfl (lv_room (Nat.le_of_ble_eq_true rfl)) dX9_shutFarthest_48 ⟨(Nat.le_of_ble_eq_true rfl), (Nat.le_of_ble_eq_true rfl)⟩)) (fun r_21 hr_21 => ?_)
  obtain rfl : r_21 = nI ((2 * c2) * 16 + (2 * a + 1)) := hr_21
  refine lv_lconst (v := 0) hx hb dX9_shutFarthest_51 (by decide) ?_
  refine pl_last hx hb hK hW hT_x_9.1 hS_x_9 (vp_in_nI (n := (2 * c2) * 16 + (2 * a + 1)) (N := 256) (by omega) (by omega)) dX9_shutFarthest_52 (fun H locs f_23 S_22 ef_f_23 e1 hW => ?_)
  have hTy := hTy.u45 e1 hT_x_9 ⟨f_23, rfl⟩
  have hS_v := un e1 hT_v hT_x_9 (by decide) hS_v
  have hFr := uf hFr e1 hT_x_9 (by decide) (by decide)
  have hS_x_9 := us e1
  refine lv_aload_n hx hb dX9_shutFarthest_53 rfl (lv_at hl 4 rfl) ?_
  refine pl_get (ci := 9) (v := .ref x_9) (C := RX9) (T := TX9) (N := 13) hx hb hT iX9 hown hK hW hT_v.1 hS_v rfl 6 (by decide) w273 rfl dX9_shutFarthest_54 ?_
  refine lv_iload hx hb dX9_shutFarthest_57 (lv_at hl 3 rfl) ?_
  refine lv_iload hx hb dX9_shutFarthest_59 (lv_at hl 2 rfl) ?_
  refine vp_callSi (va_Run.run (va_runS (As := [.int (nI (2 * a + 1)), .int (nI (2 * c2))]) (rest := [.ref x_9]) ⟨hx, hb, hml, hown, hT⟩ (s_step l dC dI H.size (2 * a + 1) (2 * c2) (by omega) (by omega)) (va_cwS 2 hT (gS w777 w778 w11 w779) rfl rfl rfl (by decide +kernel) ⟨(Nat.le_of_ble_eq_true rfl), (Nat.le_of_ble_eq_true rfl)⟩) ⟨pcW.blind, pcW.pre (va_P0 _ _ _) (hK.sub (tys' := []) [] rfl) (va_D0 (fun _ => True))⟩ rfl rfl hl.1 rfl (lv_room (Nat.le_of_ble_eq_true rfl)) dX9_shutFarthest_61 ⟨(Nat.le_of_ble_eq_true rfl), (Nat.le_of_ble_eq_true rfl)⟩)) (fun r_24 hr_24 => ?_)
  obtain rfl : r_24 = nI ((2 * a + 1) * 16 + (2 * c2)) := hr_24
  refine lv_lconst (v := 0) hx hb dX9_shutFarthest_64 (by decide) ?_
  refine pl_last hx hb hK hW hT_x_9.1 hS_x_9 (vp_in_nI (n := (2 * a + 1) * 16 + (2 * c2)) (N := 256) (by omega) (by omega)) dX9_shutFarthest_65 (fun H locs f_26 S_25 ef_f_26 e1 hW => ?_)
  have hTy := hTy.u45 e1 hT_x_9 ⟨f_26, rfl⟩
  have hS_v := un e1 hT_v hT_x_9 (by decide) hS_v
  have hFr := uf hFr e1 hT_x_9 (by decide) (by decide)
  have hS_x_9 := us e1
  refine lv_aload_n hx hb dX9_shutFarthest_66 rfl (lv_at hl 4 rfl) ?_
  refine lv_iload hx hb dX9_shutFarthest_67 (lv_at hl 3 rfl) ?_
  refine lv_iload hx hb dX9_shutFarthest_69 (lv_at hl 2 rfl) ?_
  refine vp_callSi (va_Run.run (va_runV (As := [.int (nI (2 * a + 1)), .int (nI (2 * c2))]) (rest := []) ⟨hx, hb, hml, hown, hT⟩ (s_price l dC dI cy L kap pr S_25 H.size v (2 * a + 1) (2 * c2) hTy hT_v (by omega) (by omega)) (cwV 2 hT (gV w797 w799 ws39 w11 w800) rfl rfl rfl (by decide +kernel) ⟨(Nat.le_of_ble_eq_true rfl), (Nat.le_of_ble_eq_true rfl)⟩) ⟨pcN.blind, pl_recv hK hW hT_v.1 hS_v rfl, pcN.pre hW.1 hK hW.2.1 hN (fun q h => absurd h List.not_mem_nil)⟩ rfl rfl hl.1 rfl (lv_room (Nat.le_of_ble_eq_true rfl)) dX9_shutFarthest_71 ⟨(Nat.le_of_ble_eq_true rfl), (Nat.le_of_ble_eq_true rfl)⟩)) (fun r_27 hr_27 => ?_)
  refine lv_if_eq (tgt := 80) hx hb dX9_shutFarthest_74 (by decide) (fun c_74 => ?_) (fun c_74 => ?_)
  · refine lv_iload_n hx hb dX9_shutFarthest_80 rfl (lv_at hl 7 rfl) ?_
    refine lv_if_eq (tgt := 100) hx hb dX9_shutFarthest_81 (by decide) (fun c_81 => ?_) (fun c_81 => ?_)
    · refine lv_lload hx hb dX9_shutFarthest_100 (lv_at hl 1 rfl) ?_
      refine lv_aload_n hx hb dX9_shutFarthest_102 rfl (lv_at hl 4 rfl) ?_
      refine lv_iload hx hb dX9_shutFarthest_103 (lv_at hl 3 rfl) ?_
      refine lv_iload hx hb dX9_shutFarthest_105 (lv_at hl 2 rfl) ?_
      refine lv_lload hx hb dX9_shutFarthest_107 (lv_at hl 1 rfl) ?_
      refine pl_calll (va_runV (As := [.int (nI (2 * a + 1)), .int (nI (2 * c2)), .long y_18]) (rest := [.long y_18]) ⟨hx, hb, hml, hown, hT⟩ (s_move l dC dI cy L kap pr S_25 H.size v (2 * a + 1) (2 * c2) y_18 hTy hT_v (by omega) (by omega)) (cwV 3 hT (gV w825 w827 ws45 w11 w828) rfl rfl rfl (by decide +kernel) ⟨(Nat.le_of_ble_eq_true rfl), (Nat.le_of_ble_eq_true rfl)⟩) ⟨pcN.blind, pl_recv hK hW hT_v.1 hS_v rfl, pcN.pre hW.1 hK hW.2.1 hN (fun q h => absurd h List.not_mem_nil)⟩ rfl rfl hl.1 rfl (lv_room (Nat.le_of_ble_eq_true rfl)) dX9_shutFarthest_109 ⟨(Nat.le_of_ble_eq_true rfl), (Nat.le_of_ble_eq_true rfl)⟩) hW hA0 hA (fun r_29 S_28 H locs hrel hW => ?_)
      obtain ⟨hTy, hF1⟩ := hrel
      have hFr := hFr.tr hF1 (by decide)
      have hS_v := hF1.at hT_v (by decide) hS_v
      refine lv_lsub hx hb dX9_shutFarthest_112 ?_
      refine lv_topl (fun z_30 ez_30 => ?_)
      exact W.lret (v := z_30) hx hb hr (fun t ht h9 => ⟨⟨z_30, S_28, rfl, ⟨hTy, hFr⟩, by rw [ht]; exact hW.1, va_K.moved h9.alike hK, hW.2.1⟩, hW.2.2.F ht⟩) hW.2.2.2.2 dX9_shutFarthest_113
    · refine lv_lload hx hb dX9_shutFarthest_84 (lv_at hl 1 rfl) ?_
      refine lv_aload_n hx hb dX9_shutFarthest_86 rfl (lv_at hl 4 rfl) ?_
      refine lv_iload hx hb dX9_shutFarthest_87 (lv_at hl 2 rfl) ?_
      refine lv_iload hx hb dX9_shutFarthest_89 (lv_at hl 3 rfl) ?_
      refine lv_lload hx hb dX9_shutFarthest_91 (lv_at hl 0 rfl) ?_
      refine pl_calll (va_runV (As := [.int (nI (2 * c2)), .int (nI (2 * a + 1)), .long y_20]) (rest := [.long y_18]) ⟨hx, hb, hml, hown, hT⟩ (s_move l dC dI cy L kap pr S_25 H.size v (2 * c2) (2 * a + 1) y_20 hTy hT_v (by omega) (by omega)) (cwV 3 hT (gV w825 w827 ws45 w11 w828) rfl rfl rfl (by decide +kernel) ⟨(Nat.le_of_ble_eq_true rfl), (Nat.le_of_ble_eq_true rfl)⟩) ⟨pcN.blind, pl_recv hK hW hT_v.1 hS_v rfl, pcN.pre hW.1 hK hW.2.1 hN (fun q h => absurd h List.not_mem_nil)⟩ rfl rfl hl.1 rfl (lv_room (Nat.le_of_ble_eq_true rfl)) dX9_shutFarthest_93 ⟨(Nat.le_of_ble_eq_true rfl), (Nat.le_of_ble_eq_true rfl)⟩) hW hA0 hA (fun r_32 S_31 H locs hrel hW => ?_)
      obtain ⟨hTy, hF1⟩ := hrel
      have hFr := hFr.tr hF1 (by decide)
      have hS_v := hF1.at hT_v (by decide) hS_v
      refine lv_ladd hx hb dX9_shutFarthest_96 ?_
      refine lv_topl (fun z_33 ez_33 => ?_)
      refine lv_goto (tgt := 113) hx hb dX9_shutFarthest_97 (by decide) ?_
      exact W.lret (v := z_33) hx hb hr (fun t ht h9 => ⟨⟨z_33, S_31, rfl, ⟨hTy, hFr⟩, by rw [ht]; exact hW.1, va_K.moved h9.alike hK, hW.2.1⟩, hW.2.2.F ht⟩) hW.2.2.2.2 dX9_shutFarthest_113
  · refine lv_lload hx hb dX9_shutFarthest_77 (lv_at hl 1 rfl) ?_
    exact W.lret (v := y_18) hx hb hr (fun t ht h9 => ⟨⟨y_18, S_25, rfl, ⟨hTy, hFr⟩, by rw [ht]; exact hW.1, va_K.moved h9.alike hK, hW.2.1⟩, hW.2.2.F ht⟩) hW.2.2.2.2 dX9_shutFarthest_79

set_option maxHeartbeats 4000000 in
set_option maxRecDepth 100000 in
theorem s_farthest (l : Launch) (dC : Nat → ClassId) (dI : Nat → Nat → Nat) (cy : Nat → ClassId) (L : List Nat) (kap : Nat → Nat) (pr : Pr) (S : Nat → va_E) (sz : Nat) (v : Nat) (a : Nat) (c2 : Nat) (up : Int32) (hTy : Ty cy L kap pr S) (hT_v : TK L kap v 9) (hb_a : a < 8) (hb_c2 : c2 < 8) : Met l yX9_farthest (wT yX9_farthest cX9_farthest 6 (some .long)) ({ frames := 5, cells := 0, slots := 0, locals := 141 }) (pcN dC dI [.ref v, .int (nI a), .int (nI c2), .int up] sz (va_pl L S) (cyT cy) NLs []) (va_Ql (fun r S' => Ty cy L kap pr S' ∧ Fr kap [35, 36, 37, 38, 45] S S') (fun S' t => pB dC dI (AL L sz) (va_pl L S') (cyT cy) t) (AL L sz)) 0 0 (AL L sz) := by
  refine Met.ofW (cc := cX9_farthest) (maxL := 6) (ret := (some .long)) (by decide) rfl ?_
  intro p e s m args below meth c s₁ B hml hv
  obtain ⟨rfl, hsz, hP, hK, hD0, hN, -⟩ := hv
  have hx := B.exec
  have hb := B.bytes
  have hr := B.returns
  have hT : ∀ wd ∈ TB, wd.before [.ref v, .int (nI a), .int (nI c2), .int up].toArray s = true := fun wd h => atoms_spec (ws := wT yX9_farthest cX9_farthest 6 (some .long)) B.pre wd (List.mem_cons_of_mem _ h)
  have hown : s.vm.findClass RX9 = some m.cls := findClass_of_methodNamed B.named
  have hlocks := B.notSynchronized
  subst hsz
  have hW : PW dC dI L (AL L s.heap.size) s.heap S s.heap [] := ⟨hP, pl_self hD0, va_S.rf⟩
  have hA0 : ∀ q, q ∈ L → AL L s.heap.size q := fun _ h => Or.inl h
  have hA : ∀ q, s.heap.size ≤ q → AL L s.heap.size q := fun _ h => Or.inr h
  have hFr : Fr kap [35, 36, 37, 38, 45] S S := Fr.rf
  have hl := lv_entry ([.ref v, .int (nI a), .int (nI c2), .int up]) (n := 6) (Nat.le_of_ble_eq_true rfl)
  rw [lg_entry_eq]
  generalize (lg_sl ([.ref v, .int (nI a), .int (nI c2), .int up]) ++ List.replicate (6 - (lg_sl ([.ref v, .int (nI a), .int (nI c2), .int up])).length) Slot.unset).toArray = ls at hl ⊢
  have hl : lv_has ls 6 [(0, .ref v), (1, .int (nI a)), (2, .int (nI c2)), (3, .int up)] := hl
  refine lv_aload_n hx hb dX9_farthest_0 rfl (lv_at hl 0 rfl) ?_
  refine lv_iload_n hx hb dX9_farthest_1 rfl (lv_at hl 1 rfl) ?_
  refine lv_iload_n hx hb dX9_farthest_2 rfl (lv_at hl 2 rfl) ?_
  refine lv_iload_n hx hb dX9_farthest_3 rfl (lv_at hl 3 rfl) ?_
  obtain ⟨x_1, x_2, x_3, x_4, x_5, x_6, x_7, x_8, x_9, x_10, x_11, x_12, x_13, hS_v, hT_x_1, hT_x_2, hT_x_5, hT_x_6, hT_x_7, hT_x_8, hT_x_9, hT_x_10, hT_x_11, hb_x_12, hb_x_13⟩ := hTy.k9 hT_v
  refine pl_calll (va_runV (As := [.int (nI a), .int (nI c2), .int up]) (rest := []) ⟨hx, hb, hml, hown, hT⟩ (s_shut l dC dI cy L kap pr S s.heap.size v a c2 up hTy hT_v (by omega) (by omega)) (cwV 3 hT (gV w821 w823 ws44 w11 w824) rfl rfl rfl (by decide +kernel) ⟨(Nat.le_of_ble_eq_true rfl), (Nat.le_of_ble_eq_true rfl)⟩) ⟨pcN.blind, pl_recv hK hW hT_v.1 hS_v rfl, pcN.pre hW.1 hK hW.2.1 hN (fun q h => absurd h List.not_mem_nil)⟩ rfl rfl hl.1 rfl (lv_room (Nat.le_of_ble_eq_true rfl)) dX9_farthest_4 ⟨(Nat.le_of_ble_eq_true rfl), (Nat.le_of_ble_eq_true rfl)⟩) hW hA0 hA (fun r_15 S_14 H locs hrel hW => ?_)
  obtain ⟨hTy, hF1⟩ := hrel
  have hFr := hFr.tr hF1 (by decide)
  have hS_v := hF1.at hT_v (by decide) hS_v
  refine lv_lstore (lv' := [(4, .long r_15), (0, .ref v), (1, .int (nI a)), (2, .int (nI c2)), (3, .int up)]) hx hb dX9_farthest_7 hl (by decide) rfl (fun ls hl => ?_)
  refine lv_aload_n hx hb dX9_farthest_9 rfl (lv_at hl 1 rfl) ?_
  refine lv_iload_n hx hb dX9_farthest_10 rfl (lv_at hl 2 rfl) ?_
  refine lv_iload_n hx hb dX9_farthest_11 rfl (lv_at hl 3 rfl) ?_
  refine lv_lload hx hb dX9_farthest_12 (lv_at hl 0 rfl) ?_
  refine pl_callv (va_runV (As := [.int (nI a), .int (nI c2), .long r_15]) (rest := []) ⟨hx, hb, hml, hown, hT⟩ (s_open l dC dI cy L kap pr S_14 H.size v a c2 r_15 hTy hT_v (by omega) (by omega)) (cwV 3 hT (gV w784 w786 ws36 w11 w787) rfl rfl rfl (by decide +kernel) ⟨(Nat.le_of_ble_eq_true rfl), (Nat.le_of_ble_eq_true rfl)⟩) ⟨pcN.blind, pl_recv hK hW hT_v.1 hS_v rfl, pcN.pre hW.1 hK hW.2.1 hN (fun q h => absurd h List.not_mem_nil)⟩ rfl rfl hl.1 rfl (lv_room (Nat.le_of_ble_eq_true rfl)) dX9_farthest_14 ⟨(Nat.le_of_ble_eq_true rfl), (Nat.le_of_ble_eq_true rfl)⟩) hW hA0 hA (fun S_16 H locs hrel hW => ?_)
  obtain ⟨hTy, hF1⟩ := hrel
  have hFr := hFr.tr hF1 (by decide)
  have hS_v := hF1.at hT_v (by decide) hS_v
  refine lv_lload hx hb dX9_farthest_17 (lv_at hl 0 rfl) ?_
  exact W.lret (v := r_15) hx hb hr (fun t ht h9 => ⟨⟨r_15, S_16, rfl, ⟨hTy, hFr⟩, by rw [ht]; exact hW.1, va_K.moved h9.alike hK, hW.2.1⟩, hW.2.2.F ht⟩) hW.2.2.2.2 dX9_farthest_19

set_option maxHeartbeats 4000000 in
set_option maxRecDepth 100000 in
theorem s_firstAbove (l : Launch) (dC : Nat → ClassId) (dI : Nat → Nat → Nat) (cy : Nat → ClassId) (L : List Nat) (kap : Nat → Nat) (pr : Pr) (S : Nat → va_E) (sz : Nat) (v : Nat) (hTy : Ty cy L kap pr S) (hT_v : TK L kap v 9) : Met l yX9_firstAboveZero (wT yX9_firstAboveZero cX9_firstAboveZero 1 (some .int)) ({ frames := 1, cells := 0, slots := 0, locals := 22 }) (pcN dC dI [.ref v] sz (va_pl L S) (cyT cy) NLs []) (vp_Si (fun r => True)) 0 0 (fun _ => False) := by
  refine Met.ofW (cc := cX9_firstAboveZero) (maxL := 1) (ret := (some .int)) (by decide) rfl ?_
  intro p e s m args below meth c s₁ B hml hv
  obtain ⟨rfl, hsz, hP, hK, hD0, hN, -⟩ := hv
  have hx := B.exec
  have hb := B.bytes
  have hr := B.returns
  have hT : ∀ wd ∈ TB, wd.before [.ref v].toArray s = true := fun wd h => atoms_spec (ws := wT yX9_firstAboveZero cX9_firstAboveZero 1 (some .int)) B.pre wd (List.mem_cons_of_mem _ h)
  have hown : s.vm.findClass RX9 = some m.cls := findClass_of_methodNamed B.named
  have hlocks := B.notSynchronized
  subst hsz
  have hW : PW dC dI L (AL L s.heap.size) s.heap S s.heap [] := ⟨hP, pl_self hD0, va_S.rf⟩
  have hFr : Fr kap [] S S := Fr.rf
  have hl := lv_entry ([.ref v]) (n := 1) (Nat.le_of_ble_eq_true rfl)
  rw [lg_entry_eq]
  generalize (lg_sl ([.ref v]) ++ List.replicate (1 - (lg_sl ([.ref v])).length) Slot.unset).toArray = ls at hl ⊢
  have hl : lv_has ls 1 [(0, .ref v)] := hl
  refine lv_aload_n hx hb dX9_firstAboveZero_0 rfl (lv_at hl 0 rfl) ?_
  obtain ⟨x_1, x_2, x_3, x_4, x_5, x_6, x_7, x_8, x_9, x_10, x_11, x_12, x_13, hS_v, hT_x_1, hT_x_2, hT_x_5, hT_x_6, hT_x_7, hT_x_8, hT_x_9, hT_x_10, hT_x_11, hb_x_12, hb_x_13⟩ := hTy.k9 hT_v
  refine pl_get (ci := 9) (v := .ref x_2) (C := RX9) (T := TX9) (N := 13) hx hb hT iX9 hown hK hW hT_v.1 hS_v rfl 1 (by decide) w265 rfl dX9_firstAboveZero_1 ?_
  refine vp_callSi (va_Run.run (va_runSN (As := [.ref x_2]) (rest := []) ⟨hx, hb, hml, hown, hT⟩ (s_above43 l dC dI cy L kap pr S s.heap.size x_2 hTy hT_x_2) ⟨va_cnB 1 hT (gT w839) rfl rfl rfl (hN (RX9, 128, yX11_cellsAboveZero, RX11) (by decide +kernel)) (hT _ w1) (by decide +kernel) ⟨(Nat.le_of_ble_eq_true rfl), (Nat.le_of_ble_eq_true rfl)⟩, (hT _ w838), trivial⟩ ⟨pcN.blind, pcN.pre hW.1 hK hW.2.1 hN (fun q h => absurd h List.not_mem_nil)⟩ rfl rfl hl.1 rfl (lv_room (Nat.le_of_ble_eq_true rfl)) dX9_firstAboveZero_4 ⟨(Nat.le_of_ble_eq_true rfl), (Nat.le_of_ble_eq_true rfl)⟩)) (fun r_14 hr_14 => ?_)
  exact W.iret (v := r_14) hx hb hr (fun t ht h9 => ⟨r_14, rfl, trivial, ht⟩) (fun q h => by cases h) dX9_firstAboveZero_7

set_option maxHeartbeats 4000000 in
set_option maxRecDepth 100000 in
theorem s_findFirst (l : Launch) (dC : Nat → ClassId) (dI : Nat → Nat → Nat) (cy : Nat → ClassId) (L : List Nat) (kap : Nat → Nat) (pr : Pr) (S : Nat → va_E) (sz : Nat) (v : Nat) (hTy : Ty cy L kap pr S) (hT_v : TK L kap v 9) : Met l yX9_findFirst (wT yX9_findFirst cX9_findFirst 3 none) ({ frames := 5, cells := 0, slots := 0, locals := 141 }) (pcN dC dI [.ref v] sz (va_pl L S) (cyT cy) NLs []) (va_Qv (fun S' => Ty cy L kap pr S' ∧ Fr kap [35, 36, 37, 38, 43, 45] S S') (fun S' t => pB dC dI (AL L sz) (va_pl L S') (cyT cy) t) (AL L sz)) 0 0 (AL L sz) := by
  refine Met.ofW (cc := cX9_findFirst) (maxL := 3) (ret := none) (by decide) rfl ?_
  intro p e s m args below meth c s₁ B hml hv
  obtain ⟨rfl, hsz, hP, hK, hD0, hN, -⟩ := hv
  have hx := B.exec
  have hb := B.bytes
  have hr := B.returns
  have hT : ∀ wd ∈ TB, wd.before [.ref v].toArray s = true := fun wd h => atoms_spec (ws := wT yX9_findFirst cX9_findFirst 3 none) B.pre wd (List.mem_cons_of_mem _ h)
  have hown : s.vm.findClass RX9 = some m.cls := findClass_of_methodNamed B.named
  have hlocks := B.notSynchronized
  subst hsz
  have hW : PW dC dI L (AL L s.heap.size) s.heap S s.heap [] := ⟨hP, pl_self hD0, va_S.rf⟩
  have hA0 : ∀ q, q ∈ L → AL L s.heap.size q := fun _ h => Or.inl h
  have hA : ∀ q, s.heap.size ≤ q → AL L s.heap.size q := fun _ h => Or.inr h
  have hFr : Fr kap [35, 36, 37, 38, 43, 45] S S := Fr.rf
  have hl := lv_entry ([.ref v]) (n := 3) (Nat.le_of_ble_eq_true rfl)
  rw [lg_entry_eq]
  generalize (lg_sl ([.ref v]) ++ List.replicate (3 - (lg_sl ([.ref v])).length) Slot.unset).toArray = ls at hl ⊢
  have hl : lv_has ls 3 [(0, .ref v)] := hl
  refine lv_aload_n hx hb dX9_findFirst_0 rfl (lv_at hl 0 rfl) ?_
  obtain ⟨x_1, x_2, x_3, x_4, x_5, x_6, x_7, x_8, x_9, x_10, x_11, x_12, x_13, hS_v, hT_x_1, hT_x_2, hT_x_5, hT_x_6, hT_x_7, hT_x_8, hT_x_9, hT_x_10, hT_x_11, hb_x_12, hb_x_13⟩ := hTy.k9 hT_v
  refine pl_get (ci := 9) (v := .ref x_2) (C := RX9) (T := TX9) (N := 13) hx hb hT iX9 hown hK hW hT_v.1 hS_v rfl 1 (by decide) w265 rfl dX9_findFirst_1 ?_
  refine lv_lconst (v := 0) hx hb dX9_findFirst_4 (by decide) ?_
  refine pl_callv (va_runS (As := [.ref x_2, .long 0]) (rest := []) ⟨hx, hb, hml, hown, hT⟩ (s_fillJ43 l dC dI cy L kap pr S s.heap.size x_2 0 hTy hT_x_2) (va_cwS 2 hT (gS w737 w678 w6 w679) rfl rfl rfl (by decide +kernel) ⟨(Nat.le_of_ble_eq_true rfl), (Nat.le_of_ble_eq_true rfl)⟩) ⟨pcN.blind, pcN.pre hW.1 hK hW.2.1 hN (fun q h => absurd h List.not_mem_nil)⟩ rfl rfl hl.1 rfl (lv_room (Nat.le_of_ble_eq_true rfl)) dX9_findFirst_5 ⟨(Nat.le_of_ble_eq_true rfl), (Nat.le_of_ble_eq_true rfl)⟩) hW hA0 hA (fun S_14 H locs hrel hW => ?_)
  obtain ⟨hTy, hF1⟩ := hrel
  have hFr := hFr.tr hF1 (by decide)
  have hS_v := hF1.at hT_v (by decide) hS_v
  refine lv_iconst (v := 0) hx hb dX9_findFirst_8 (by decide) ?_
  refine lv_istore_n (lv' := [(1, .int 0), (0, .ref v)]) hx hb dX9_findFirst_9 rfl hl (by decide) rfl (fun ls hl => ?_)
  have loop : ∀ (fuel : Nat) (i : Nat) (SS : Nat → va_E) (H : Heap) (locs : List Loc) (ls : Array Slot), 9 - i < fuel → (i ≤ 8) → Ty cy L kap pr SS → Fr kap [35, 36, 37, 38, 43, 45] S SS → Fr kap [35, 36, 37, 38, 43, 45] S_14 SS → PW dC dI L (AL L s.heap.size) s.heap SS H locs → lv_has ls 3 [(1, .int (nI i)), (0, .ref v)] → W p l e (headSpec (wT yX9_findFirst cX9_findFirst 3 none) { frames := 5, cells := 0, slots := 0, locals := 141 }).room s m [.ref v].toArray below meth c H locs 0 0 (MQ below (va_Qv (fun S' => Ty cy L kap pr S' ∧ Fr kap [35, 36, 37, 38, 43, 45] S S') (fun S' t => pB dC dI (AL L s.heap.size) (va_pl L S') (cyT cy) t) (AL L s.heap.size)) [.ref v].toArray s 0 0 (AL L s.heap.size)) (F0 m 10 ls []) := by
    intro fuel
    induction fuel with
    | zero => intro i SS H locs ls h; exact absurd h (Nat.not_lt_zero _)
    | succ fu10 ih10 =>
      intro i S_15 H locs ls hm10 hb_i hTy hFr hFl10 hW hl
      have hS_v := hFl10.at hT_v (by decide) hS_v
      refine lv_iload_n hx hb dX9_findFirst_10 rfl (lv_at hl 0 rfl) ?_
      refine lv_aload_n hx hb dX9_findFirst_11 rfl (lv_at hl 1 rfl) ?_
      refine pl_get (ci := 9) (v := .int (nI x_12)) (C := RX9) (T := TX9) (N := 13) hx hb hT iX9 hown hK hW hT_v.1 hS_v rfl 11 (by decide) w278 rfl dX9_findFirst_12 ?_
      refine lv_icmp_ge (tgt := 62) hx hb dX9_findFirst_15 (by decide) (fun c_15 => ?_) (fun c_15 => ?_)
      · have c_15 : x_12 ≤ i := (nI_leI (a := x_12) (b := i) (by omega) (by omega)).mp c_15
        refine lv_iconst (v := 0) hx hb dX9_findFirst_62 (by decide) ?_
        refine lv_istore_n (lv' := [(1, .int 0), (0, .ref v)]) hx hb dX9_findFirst_63 rfl hl (by decide) rfl (fun ls hl => ?_)
        have loop : ∀ (fuel : Nat) (i4 : Nat) (SS : Nat → va_E) (H : Heap) (locs : List Loc) (ls : Array Slot), 9 - i4 < fuel → (i4 ≤ 8) → Ty cy L kap pr SS → Fr kap [35, 36, 37, 38, 43, 45] S SS → Fr kap [35, 36, 37, 38, 43, 45] S_15 SS → PW dC dI L (AL L s.heap.size) s.heap SS H locs → lv_has ls 3 [(1, .int (nI i4)), (0, .ref v)] → W p l e (headSpec (wT yX9_findFirst cX9_findFirst 3 none) { frames := 5, cells := 0, slots := 0, locals := 141 }).room s m [.ref v].toArray below meth c H locs 0 0 (MQ below (va_Qv (fun S' => Ty cy L kap pr S' ∧ Fr kap [35, 36, 37, 38, 43, 45] S S') (fun S' t => pB dC dI (AL L s.heap.size) (va_pl L S') (cyT cy) t) (AL L s.heap.size)) [.ref v].toArray s 0 0 (AL L s.heap.size)) (F0 m 64 ls []) := by
          intro fuel
          induction fuel with
          | zero => intro i4 SS H locs ls h; exact absurd h (Nat.not_lt_zero _)
          | succ fu64 ih64 =>
            intro i4 S_16 H locs ls hm64 hb_i4 hTy hFr hFl64 hW hl
            have hS_v := hFl64.at hT_v (by decide) hS_v
            have hFl10 := hFl10.tr hFl64 (by decide)
            refine lv_iload_n hx hb dX9_findFirst_64 rfl (lv_at hl 0 rfl) ?_
            refine lv_aload_n hx hb dX9_findFirst_65 rfl (lv_at hl 1 rfl) ?_
            refine pl_get (ci := 9) (v := .int (nI x_12)) (C := RX9) (T := TX9) (N := 13) hx hb hT iX9 hown hK hW hT_v.1 hS_v rfl 11 (by decide) w278 rfl dX9_findFirst_66 ?_
            refine lv_icmp_ge (tgt := 115) hx hb dX9_findFirst_69 (by decide) (fun c_69 => ?_) (fun c_69 => ?_)
            · have c_69 : x_12 ≤ i4 := (nI_leI (a := x_12) (b := i4) (by omega) (by omega)).mp c_69
              exact W.vret hx hb hr (fun t ht h9 => ⟨⟨S_16, rfl, ⟨hTy, hFr⟩, by rw [ht]; exact hW.1, va_K.moved h9.alike hK, hW.2.1⟩, hW.2.2.F ht⟩) hW.2.2.2.2 dX9_findFirst_115
            · have c_69 : ¬ (x_12 ≤ i4) := fun hh9 => c_69 ((nI_leI (a := x_12) (b := i4) (by omega) (by omega)).mpr hh9)
              refine lv_iconst (v := 0) hx hb dX9_findFirst_72 (by decide) ?_
              refine lv_istore_n (lv' := [(2, .int 0), (1, .int (nI i4)), (0, .ref v)]) hx hb dX9_findFirst_73 rfl hl (by decide) rfl (fun ls hl => ?_)
              have loop : ∀ (fuel : Nat) (j4 : Nat) (SS : Nat → va_E) (H : Heap) (locs : List Loc) (ls : Array Slot), 9 - j4 < fuel → (j4 ≤ 8) → Ty cy L kap pr SS → Fr kap [35, 36, 37, 38, 43, 45] S SS → Fr kap [35, 36, 37, 38, 43, 45] S_16 SS → PW dC dI L (AL L s.heap.size) s.heap SS H locs → lv_has ls 3 [(2, .int (nI j4)), (1, .int (nI i4)), (0, .ref v)] → W p l e (headSpec (wT yX9_findFirst cX9_findFirst 3 none) { frames := 5, cells := 0, slots := 0, locals := 141 }).room s m [.ref v].toArray below meth c H locs 0 0 (MQ below (va_Qv (fun S' => Ty cy L kap pr S' ∧ Fr kap [35, 36, 37, 38, 43, 45] S S') (fun S' t => pB dC dI (AL L s.heap.size) (va_pl L S') (cyT cy) t) (AL L s.heap.size)) [.ref v].toArray s 0 0 (AL L s.heap.size)) (F0 m 74 ls []) := by
                intro fuel
                induction fuel with
                | zero => intro j4 SS H locs ls h; exact absurd h (Nat.not_lt_zero _)
                | succ fu74 ih74 =>
                  intro j4 S_17 H locs ls hm74 hb_j4 hTy hFr hFl74 hW hl
                  have hS_v := hFl74.at hT_v (by decide) hS_v
                  have hFl10 := hFl10.tr hFl74 (by decide)
                  have hFl64 := hFl64.tr hFl74 (by decide)
                  refine lv_iload_n hx hb dX9_findFirst_74 rfl (lv_at hl 0 rfl) ?_
                  refine lv_aload_n hx hb dX9_findFirst_75 rfl (lv_at hl 2 rfl) ?_
                  refine pl_get (ci := 9) (v := .int (nI x_12)) (C := RX9) (T := TX9) (N := 13) hx hb hT iX9 hown hK hW hT_v.1 hS_v rfl 11 (by decide) w278 rfl dX9_findFirst_76 ?_
                  refine lv_icmp_ge (tgt := 109) hx hb dX9_findFirst_79 (by decide) (fun c_79 => ?_) (fun c_79 => ?_)
                  · have c_79 : x_12 ≤ j4 := (nI_leI (a := x_12) (b := j4) (by omega) (by omega)).mp c_79
                    refine lv_iinc (v := nI (i4 + 1)) (lv' := [(1, .int (nI (i4 + 1))), (2, .int (nI j4)), (0, .ref v)]) hx hb dX9_findFirst_109 hl (k := 1) rfl (nI_add (i4) 1) (by decide) rfl (fun ls hl => ?_)
                    refine lv_goto (tgt := 64) hx hb dX9_findFirst_112 (by decide) ?_
                    exact ih64 (i4 + 1) _ _ _ ls (by omega) (by omega) hTy hFr hFl64 hW (lv_sub hl [0, 2] rfl)
                  · have c_79 : ¬ (x_12 ≤ j4) := fun hh9 => c_79 ((nI_leI (a := x_12) (b := j4) (by omega) (by omega)).mpr hh9)
                    refine lv_iload_n hx hb dX9_findFirst_82 rfl (lv_at hl 1 rfl) ?_
                    refine lv_iload_n hx hb dX9_findFirst_83 rfl (lv_at hl 0 rfl) ?_
                    refine lv_icmp_eq (tgt := 103) hx hb dX9_findFirst_84 (by decide) (fun c_84 => ?_) (fun c_84 => ?_)
                    · have c_84 : i4 = j4 := (nI_eq (a := i4) (b := j4) (by omega) (by omega)).mp c_84
                      refine lv_iinc (v := nI (j4 + 1)) (lv' := [(2, .int (nI (j4 + 1))), (1, .int (nI i4)), (0, .ref v)]) hx hb dX9_findFirst_103 hl (k := 0) rfl (nI_add (j4) 1) (by decide) rfl (fun ls hl => ?_)
                      refine lv_goto (tgt := 74) hx hb dX9_findFirst_106 (by decide) ?_
                      exact ih74 (j4 + 1) _ _ _ ls (by omega) (by omega) hTy hFr hFl74 hW (lv_sub hl [0, 1, 2] rfl)
                    · have c_84 : ¬ (i4 = j4) := fun hh9 => c_84 ((nI_eq (a := i4) (b := j4) (by omega) (by omega)).mpr hh9)
                      refine lv_aload_n hx hb dX9_findFirst_87 rfl (lv_at hl 2 rfl) ?_
                      refine lv_iload_n hx hb dX9_findFirst_88 rfl (lv_at hl 1 rfl) ?_
                      refine lv_iload_n hx hb dX9_findFirst_89 rfl (lv_at hl 0 rfl) ?_
                      refine lv_aload_n hx hb dX9_findFirst_90 rfl (lv_at hl 2 rfl) ?_
                      refine pl_get (ci := 9) (v := .ref x_2) (C := RX9) (T := TX9) (N := 13) hx hb hT iX9 hown hK hW hT_v.1 hS_v rfl 1 (by decide) w265 rfl dX9_findFirst_91 ?_
                      refine lv_iload_n hx hb dX9_findFirst_94 rfl (lv_at hl 1 rfl) ?_
                      refine lv_iload_n hx hb dX9_findFirst_95 rfl (lv_at hl 0 rfl) ?_
                      refine vp_callSi (va_Run.run (va_runSN (As := [.int (nI i4), .int (nI j4)]) (rest := [.ref x_2, .int (nI j4), .int (nI i4), .ref v]) ⟨hx, hb, hml, hown, hT⟩ (s_cell l dC dI H.size i4 j4 (by omega) (by omega)) ⟨va_cnB 2 hT (gT w577) rfl rfl rfl (hN (RX9, 70, yX11_cell, RX11) (by decide +kernel)) (hT _ w1) (by decide +kernel) ⟨(Nat.le_of_ble_eq_true rfl), (Nat.le_of_ble_eq_true rfl)⟩, (hT _ w576), trivial⟩ ⟨pcW.blind, pcW.pre (va_P0 _ _ _) (hK.sub (tys' := []) [] rfl) (va_D0 (fun _ => True))⟩ rfl rfl hl.1 rfl (lv_room (Nat.le_of_ble_eq_true rfl)) dX9_findFirst_96 ⟨(Nat.le_of_ble_eq_true rfl), (Nat.le_of_ble_eq_true rfl)⟩)) (fun r_18 hr_18 => ?_)
                      obtain rfl : r_18 = nI (i4 * 8 + j4) := hr_18
                      obtain ⟨f_19, hS_x_2⟩ := hTy.k43 hT_x_2
                      refine pl_lald hx hb hK hW hT_x_2.1 hS_x_2 (vp_in_nI (n := i4 * 8 + j4) (N := 64) (by omega) (by omega)) dX9_findFirst_99 ?_
                      refine lv_topl (fun y_20 ey_20 => ?_)
                      refine pl_callv (va_runV (As := [.int (nI i4), .int (nI j4), .long y_20]) (rest := []) ⟨hx, hb, hml, hown, hT⟩ (s_open l dC dI cy L kap pr S_17 H.size v i4 j4 y_20 hTy hT_v (by omega) (by omega)) (cwV 3 hT (gV w784 w786 ws36 w11 w787) rfl rfl rfl (by decide +kernel) ⟨(Nat.le_of_ble_eq_true rfl), (Nat.le_of_ble_eq_true rfl)⟩) ⟨pcN.blind, pl_recv hK hW hT_v.1 hS_v rfl, pcN.pre hW.1 hK hW.2.1 hN (fun q h => absurd h List.not_mem_nil)⟩ rfl rfl hl.1 rfl (lv_room (Nat.le_of_ble_eq_true rfl)) dX9_findFirst_100 ⟨(Nat.le_of_ble_eq_true rfl), (Nat.le_of_ble_eq_true rfl)⟩) hW hA0 hA (fun S_21 H locs hrel hW => ?_)
                      obtain ⟨hTy, hF1⟩ := hrel
                      have hFr := hFr.tr hF1 (by decide)
                      have hFl10 := hFl10.tr hF1 (by decide)
                      have hFl64 := hFl64.tr hF1 (by decide)
                      have hFl74 := hFl74.tr hF1 (by decide)
                      have hS_v := hF1.at hT_v (by decide) hS_v
                      have hS_x_2 := hF1.at hT_x_2 (by decide) hS_x_2
                      refine lv_iinc (v := nI (j4 + 1)) (lv' := [(2, .int (nI (j4 + 1))), (1, .int (nI i4)), (0, .ref v)]) hx hb dX9_findFirst_103 hl (k := 0) rfl (nI_add (j4) 1) (by decide) rfl (fun ls hl => ?_)
                      refine lv_goto (tgt := 74) hx hb dX9_findFirst_106 (by decide) ?_
                      exact ih74 (j4 + 1) _ _ _ ls (by omega) (by omega) hTy hFr hFl74 hW (lv_sub hl [0, 1, 2] rfl)
              exact loop ((9 - 0) + 1) 0 _ _ _ ls (Nat.lt_succ_self _) (by omega) hTy hFr Fr.rf hW (lv_sub hl [0, 1, 2] rfl)
        exact loop ((9 - 0) + 1) 0 _ _ _ ls (Nat.lt_succ_self _) (by omega) hTy hFr Fr.rf hW (lv_sub hl [0, 1] rfl)
      · have c_15 : ¬ (x_12 ≤ i) := fun hh9 => c_15 ((nI_leI (a := x_12) (b := i) (by omega) (by omega)).mpr hh9)
        refine lv_iconst (v := 0) hx hb dX9_findFirst_18 (by decide) ?_
        refine lv_istore_n (lv' := [(2, .int 0), (1, .int (nI i)), (0, .ref v)]) hx hb dX9_findFirst_19 rfl hl (by decide) rfl (fun ls hl => ?_)
        have loop : ∀ (fuel : Nat) (j : Nat) (SS : Nat → va_E) (H : Heap) (locs : List Loc) (ls : Array Slot), 9 - j < fuel → (j ≤ 8) → Ty cy L kap pr SS → Fr kap [35, 36, 37, 38, 43, 45] S SS → Fr kap [35, 36, 37, 38, 43, 45] S_15 SS → PW dC dI L (AL L s.heap.size) s.heap SS H locs → lv_has ls 3 [(2, .int (nI j)), (1, .int (nI i)), (0, .ref v)] → W p l e (headSpec (wT yX9_findFirst cX9_findFirst 3 none) { frames := 5, cells := 0, slots := 0, locals := 141 }).room s m [.ref v].toArray below meth c H locs 0 0 (MQ below (va_Qv (fun S' => Ty cy L kap pr S' ∧ Fr kap [35, 36, 37, 38, 43, 45] S S') (fun S' t => pB dC dI (AL L s.heap.size) (va_pl L S') (cyT cy) t) (AL L s.heap.size)) [.ref v].toArray s 0 0 (AL L s.heap.size)) (F0 m 20 ls []) := by
          intro fuel
          induction fuel with
          | zero => intro j SS H locs ls h; exact absurd h (Nat.not_lt_zero _)
          | succ fu20 ih20 =>
            intro j S_22 H locs ls hm20 hb_j hTy hFr hFl20 hW hl
            have hS_v := hFl20.at hT_v (by decide) hS_v
            have hFl10 := hFl10.tr hFl20 (by decide)
            refine lv_iload_n hx hb dX9_findFirst_20 rfl (lv_at hl 0 rfl) ?_
            refine lv_aload_n hx hb dX9_findFirst_21 rfl (lv_at hl 2 rfl) ?_
            refine pl_get (ci := 9) (v := .int (nI x_12)) (C := RX9) (T := TX9) (N := 13) hx hb hT iX9 hown hK hW hT_v.1 hS_v rfl 11 (by decide) w278 rfl dX9_findFirst_22 ?_
            refine lv_icmp_ge (tgt := 56) hx hb dX9_findFirst_25 (by decide) (fun c_25 => ?_) (fun c_25 => ?_)
            · have c_25 : x_12 ≤ j := (nI_leI (a := x_12) (b := j) (by omega) (by omega)).mp c_25
              refine lv_iinc (v := nI (i + 1)) (lv' := [(1, .int (nI (i + 1))), (2, .int (nI j)), (0, .ref v)]) hx hb dX9_findFirst_56 hl (k := 1) rfl (nI_add (i) 1) (by decide) rfl (fun ls hl => ?_)
              refine lv_goto (tgt := 10) hx hb dX9_findFirst_59 (by decide) ?_
              exact ih10 (i + 1) _ _ _ ls (by omega) (by omega) hTy hFr hFl10 hW (lv_sub hl [0, 2] rfl)
            · have c_25 : ¬ (x_12 ≤ j) := fun hh9 => c_25 ((nI_leI (a := x_12) (b := j) (by omega) (by omega)).mpr hh9)
              refine lv_iload_n hx hb dX9_findFirst_28 rfl (lv_at hl 1 rfl) ?_
              refine lv_iload_n hx hb dX9_findFirst_29 rfl (lv_at hl 0 rfl) ?_
              refine lv_icmp_eq (tgt := 50) hx hb dX9_findFirst_30 (by decide) (fun c_30 => ?_) (fun c_30 => ?_)
              · have c_30 : i = j := (nI_eq (a := i) (b := j) (by omega) (by omega)).mp c_30
                refine lv_iinc (v := nI (j + 1)) (lv' := [(2, .int (nI (j + 1))), (1, .int (nI i)), (0, .ref v)]) hx hb dX9_findFirst_50 hl (k := 0) rfl (nI_add (j) 1) (by decide) rfl (fun ls hl => ?_)
                refine lv_goto (tgt := 20) hx hb dX9_findFirst_53 (by decide) ?_
                exact ih20 (j + 1) _ _ _ ls (by omega) (by omega) hTy hFr hFl20 hW (lv_sub hl [0, 1, 2] rfl)
              · have c_30 : ¬ (i = j) := fun hh9 => c_30 ((nI_eq (a := i) (b := j) (by omega) (by omega)).mpr hh9)
                refine lv_aload_n hx hb dX9_findFirst_33 rfl (lv_at hl 2 rfl) ?_
                refine pl_get (ci := 9) (v := .ref x_2) (C := RX9) (T := TX9) (N := 13) hx hb hT iX9 hown hK hW hT_v.1 hS_v rfl 1 (by decide) w265 rfl dX9_findFirst_34 ?_
                refine lv_iload_n hx hb dX9_findFirst_37 rfl (lv_at hl 1 rfl) ?_
                refine lv_iload_n hx hb dX9_findFirst_38 rfl (lv_at hl 0 rfl) ?_
                refine vp_callSi (va_Run.run (va_runSN (As := [.int (nI i), .int (nI j)]) (rest := [.ref x_2]) ⟨hx, hb, hml, hown, hT⟩ (s_cell l dC dI H.size i j (by omega) (by omega)) ⟨va_cnB 2 hT (gT w577) rfl rfl rfl (hN (RX9, 70, yX11_cell, RX11) (by decide +kernel)) (hT _ w1) (by decide +kernel) ⟨(Nat.le_of_ble_eq_true rfl), (Nat.le_of_ble_eq_true rfl)⟩, (hT _ w576), trivial⟩ ⟨pcW.blind, pcW.pre (va_P0 _ _ _) (hK.sub (tys' := []) [] rfl) (va_D0 (fun _ => True))⟩ rfl rfl hl.1 rfl (lv_room (Nat.le_of_ble_eq_true rfl)) dX9_findFirst_39 ⟨(Nat.le_of_ble_eq_true rfl), (Nat.le_of_ble_eq_true rfl)⟩)) (fun r_23 hr_23 => ?_)
                obtain rfl : r_23 = nI (i * 8 + j) := hr_23
                refine lv_aload_n hx hb dX9_findFirst_42 rfl (lv_at hl 2 rfl) ?_
                refine lv_iload_n hx hb dX9_findFirst_43 rfl (lv_at hl 1 rfl) ?_
                refine lv_iload_n hx hb dX9_findFirst_44 rfl (lv_at hl 0 rfl) ?_
                refine lv_iconst (v := 0) hx hb dX9_findFirst_45 (by decide) ?_
                refine pl_calll (va_runV (As := [.int (nI i), .int (nI j), .int 0]) (rest := [.int (nI (i * 8 + j)), .ref x_2]) ⟨hx, hb, hml, hown, hT⟩ (s_shut l dC dI cy L kap pr S_22 H.size v i j 0 hTy hT_v (by omega) (by omega)) (cwV 3 hT (gV w821 w823 ws44 w11 w824) rfl rfl rfl (by decide +kernel) ⟨(Nat.le_of_ble_eq_true rfl), (Nat.le_of_ble_eq_true rfl)⟩) ⟨pcN.blind, pl_recv hK hW hT_v.1 hS_v rfl, pcN.pre hW.1 hK hW.2.1 hN (fun q h => absurd h List.not_mem_nil)⟩ rfl rfl hl.1 rfl (lv_room (Nat.le_of_ble_eq_true rfl)) dX9_findFirst_46 ⟨(Nat.le_of_ble_eq_true rfl), (Nat.le_of_ble_eq_true rfl)⟩) hW hA0 hA (fun r_25 S_24 H locs hrel hW => ?_)
                obtain ⟨hTy, hF1⟩ := hrel
                have hFr := hFr.tr hF1 (by decide)
                have hFl10 := hFl10.tr hF1 (by decide)
                have hFl20 := hFl20.tr hF1 (by decide)
                have hS_v := hF1.at hT_v (by decide) hS_v
                obtain ⟨f_26, hS_x_2⟩ := hTy.k43 hT_x_2
                refine pl_last hx hb hK hW hT_x_2.1 hS_x_2 (vp_in_nI (n := i * 8 + j) (N := 64) (by omega) (by omega)) dX9_findFirst_49 (fun H locs f_28 S_27 ef_f_28 e1 hW => ?_)
                have hTy := hTy.u43 e1 hT_x_2 ⟨f_28, rfl⟩
                have hS_v := un e1 hT_v hT_x_2 (by decide) hS_v
                have hFr := uf hFr e1 hT_x_2 (by decide) (by decide)
                have hFl10 := uf hFl10 e1 hT_x_2 (by decide) (by decide)
                have hFl20 := uf hFl20 e1 hT_x_2 (by decide) (by decide)
                have hS_x_2 := us e1
                refine lv_iinc (v := nI (j + 1)) (lv' := [(2, .int (nI (j + 1))), (1, .int (nI i)), (0, .ref v)]) hx hb dX9_findFirst_50 hl (k := 0) rfl (nI_add (j) 1) (by decide) rfl (fun ls hl => ?_)
                refine lv_goto (tgt := 20) hx hb dX9_findFirst_53 (by decide) ?_
                exact ih20 (j + 1) _ _ _ ls (by omega) (by omega) hTy hFr hFl20 hW (lv_sub hl [0, 1, 2] rfl)
        exact loop ((9 - 0) + 1) 0 _ _ _ ls (Nat.lt_succ_self _) (by omega) hTy hFr Fr.rf hW (lv_sub hl [0, 1, 2] rfl)
  exact loop ((9 - 0) + 1) 0 _ _ _ ls (Nat.lt_succ_self _) (by omega) hTy hFr Fr.rf hW (lv_sub hl [0, 1] rfl)

set_option maxHeartbeats 4000000 in
set_option maxRecDepth 100000 in
theorem s_prepare (l : Launch) (dC : Nat → ClassId) (dI : Nat → Nat → Nat) (cy : Nat → ClassId) (L : List Nat) (kap : Nat → Nat) (pr : Pr) (S : Nat → va_E) (sz : Nat) (v : Nat) (b : Nat) (w : Nat) (hTy : Ty cy L kap pr S) (hT_v : TK L kap v 9) (hT_b : TK L kap b 0) (hT_w : TK L kap w 1) : Met l yX9_prepare (wT yX9_prepare cX9_prepare 5 none) ({ frames := 4, cells := 0, slots := 0, locals := 87 }) (pcN dC dI [.ref v, .ref b, .ref w] sz (va_pl L S) (cyT cy) NLs []) (va_Qv (fun S' => Ty cy L kap pr S' ∧ Fr kap [9, 29, 33, 44] S S') (fun S' t => pB dC dI (AL L sz) (va_pl L S') (cyT cy) t) (AL L sz)) 0 0 (AL L sz) := by
  refine Met.ofW (cc := cX9_prepare) (maxL := 5) (ret := none) (by decide) rfl ?_
  intro p e s m args below meth c s₁ B hml hv
  obtain ⟨rfl, hsz, hP, hK, hD0, hN, -⟩ := hv
  have hx := B.exec
  have hb := B.bytes
  have hr := B.returns
  have hT : ∀ wd ∈ TB, wd.before [.ref v, .ref b, .ref w].toArray s = true := fun wd h => atoms_spec (ws := wT yX9_prepare cX9_prepare 5 none) B.pre wd (List.mem_cons_of_mem _ h)
  have hown : s.vm.findClass RX9 = some m.cls := findClass_of_methodNamed B.named
  have hlocks := B.notSynchronized
  subst hsz
  have hW : PW dC dI L (AL L s.heap.size) s.heap S s.heap [] := ⟨hP, pl_self hD0, va_S.rf⟩
  have hA0 : ∀ q, q ∈ L → AL L s.heap.size q := fun _ h => Or.inl h
  have hA : ∀ q, s.heap.size ≤ q → AL L s.heap.size q := fun _ h => Or.inr h
  have hFr : Fr kap [9, 29, 33, 44] S S := Fr.rf
  have hl := lv_entry ([.ref v, .ref b, .ref w]) (n := 5) (Nat.le_of_ble_eq_true rfl)
  rw [lg_entry_eq]
  generalize (lg_sl ([.ref v, .ref b, .ref w]) ++ List.replicate (5 - (lg_sl ([.ref v, .ref b, .ref w])).length) Slot.unset).toArray = ls at hl ⊢
  have hl : lv_has ls 5 [(0, .ref v), (1, .ref b), (2, .ref w)] := hl
  refine lv_aload_n hx hb dX9_prepare_0 rfl (lv_at hl 0 rfl) ?_
  refine lv_aload_n hx hb dX9_prepare_1 rfl (lv_at hl 2 rfl) ?_
  obtain ⟨x_1, x_2, hS_w, hT_x_1, hb_x_2⟩ := hTy.k1 hT_w
  refine pl_get (ci := 1) (v := .int (nI x_2)) (C := RX1) (T := TX1) (N := 2) hx hb hT iX1 hown hK hW hT_w.1 hS_w rfl 1 (by decide) w200 rfl dX9_prepare_2 ?_
  obtain ⟨x_3, x_4, x_5, x_6, x_7, x_8, x_9, x_10, x_11, x_12, x_13, x_14, x_15, hS_v, hT_x_3, hT_x_4, hT_x_7, hT_x_8, hT_x_9, hT_x_10, hT_x_11, hT_x_12, hT_x_13, hb_x_14, hb_x_15⟩ := hTy.k9 hT_v
  refine pl_put (ci := 9) (v := .int (nI x_2)) (ty := .int) (C := RX9) (T := TX9) (N := 13) (fs' := [.ref x_3, .ref x_4, .int x_5, .long x_6, .ref x_7, .ref x_8, .ref x_9, .ref x_10, .ref x_11, .ref x_12, .ref x_13, .int (nI x_2), .int (nI x_15)]) hx hb hT iX9 tyX9 tyX9_ok nmX9 hown hK hW hT_v.1 hS_v rfl 11 (by decide) w278 rfl (by decide +kernel) rfl rfl (Nat.le_of_ble_eq_true rfl) rfl dX9_prepare_5 (fun H locs S_16 e1 hW => ?_)
  have hTy := hTy.u9 e1 hT_v ⟨x_3, x_4, x_5, x_6, x_7, x_8, x_9, x_10, x_11, x_12, x_13, x_2, x_15, rfl, hT_x_3, hT_x_4, hT_x_7, hT_x_8, hT_x_9, hT_x_10, hT_x_11, hT_x_12, hT_x_13, (by omega), (by omega)⟩
  have hS_w := un e1 hT_w hT_v (by decide) hS_w
  have hFr := uf hFr e1 hT_v (by decide) (by decide)
  have hS_v := us e1
  refine lv_aload_n hx hb dX9_prepare_8 rfl (lv_at hl 0 rfl) ?_
  refine lv_iconst (v := 2) hx hb dX9_prepare_9 (by decide) ?_
  refine lv_aload_n hx hb dX9_prepare_10 rfl (lv_at hl 0 rfl) ?_
  refine pl_get (ci := 9) (v := .int (nI x_2)) (C := RX9) (T := TX9) (N := 13) hx hb hT iX9 hown hK hW hT_v.1 hS_v rfl 11 (by decide) w278 rfl dX9_prepare_11 ?_
  refine lv_imul hx hb dX9_prepare_14 ?_
  refine lv_topi (fun z_17 ez_17 => ?_)
  obtain rfl : z_17 = nI (2 * x_2) := ez_17.trans (pk_mul (2) (x_2))
  refine pl_put (ci := 9) (v := .int (nI (2 * x_2))) (ty := .int) (C := RX9) (T := TX9) (N := 13) (fs' := [.ref x_3, .ref x_4, .int x_5, .long x_6, .ref x_7, .ref x_8, .ref x_9, .ref x_10, .ref x_11, .ref x_12, .ref x_13, .int (nI x_2), .int (nI (2 * x_2))]) hx hb hT iX9 tyX9 tyX9_ok nmX9 hown hK hW hT_v.1 hS_v rfl 12 (by decide) w279 rfl (by decide +kernel) rfl rfl (Nat.le_of_ble_eq_true rfl) rfl dX9_prepare_15 (fun H locs S_18 e1 hW => ?_)
  have hTy := hTy.u9 e1 hT_v ⟨x_3, x_4, x_5, x_6, x_7, x_8, x_9, x_10, x_11, x_12, x_13, x_2, 2 * x_2, rfl, hT_x_3, hT_x_4, hT_x_7, hT_x_8, hT_x_9, hT_x_10, hT_x_11, hT_x_12, hT_x_13, (by omega), (by omega)⟩
  have hS_w := un e1 hT_w hT_v (by decide) hS_w
  have hFr := uf hFr e1 hT_v (by decide) (by decide)
  have hS_v := us e1
  refine lv_aload_n hx hb dX9_prepare_18 rfl (lv_at hl 0 rfl) ?_
  refine pl_get (ci := 9) (v := .ref x_3) (C := RX9) (T := TX9) (N := 13) hx hb hT iX9 hown hK hW hT_v.1 hS_v rfl 0 (by decide) w263 rfl dX9_prepare_19 ?_
  refine lv_lconst (v := 0) hx hb dX9_prepare_22 (by decide) ?_
  refine pl_callv (va_runS (As := [.ref x_3, .long 0]) (rest := []) ⟨hx, hb, hml, hown, hT⟩ (s_fillJ29 l dC dI cy L kap pr S_18 H.size x_3 0 hTy hT_x_3) (va_cwS 2 hT (gS w737 w678 w6 w679) rfl rfl rfl (by decide +kernel) ⟨(Nat.le_of_ble_eq_true rfl), (Nat.le_of_ble_eq_true rfl)⟩) ⟨pcN.blind, pcN.pre hW.1 hK hW.2.1 hN (fun q h => absurd h List.not_mem_nil)⟩ rfl rfl hl.1 rfl (lv_room (Nat.le_of_ble_eq_true rfl)) dX9_prepare_23 ⟨(Nat.le_of_ble_eq_true rfl), (Nat.le_of_ble_eq_true rfl)⟩) hW hA0 hA (fun S_19 H locs hrel hW => ?_)
  obtain ⟨hTy, hF1⟩ := hrel
  have hFr := hFr.tr hF1 (by decide)
  have hS_w := hF1.at hT_w (by decide) hS_w
  have hS_v := hF1.at hT_v (by decide) hS_v
  refine lv_iconst (v := 0) hx hb dX9_prepare_26 (by decide) ?_
  refine lv_istore_n (lv' := [(3, .int 0), (0, .ref v), (1, .ref b), (2, .ref w)]) hx hb dX9_prepare_27 rfl hl (by decide) rfl (fun ls hl => ?_)
  have loop : ∀ (fuel : Nat) (i : Nat) (SS : Nat → va_E) (H : Heap) (locs : List Loc) (ls : Array Slot), 9 - i < fuel → (i ≤ 8) → Ty cy L kap pr SS → Fr kap [9, 29, 33, 44] S SS → Fr kap [29, 33, 44] S_19 SS → PW dC dI L (AL L s.heap.size) s.heap SS H locs → lv_has ls 5 [(3, .int (nI i)), (0, .ref v), (1, .ref b), (2, .ref w)] → W p l e (headSpec (wT yX9_prepare cX9_prepare 5 none) { frames := 4, cells := 0, slots := 0, locals := 87 }).room s m [.ref v, .ref b, .ref w].toArray below meth c H locs 0 0 (MQ below (va_Qv (fun S' => Ty cy L kap pr S' ∧ Fr kap [9, 29, 33, 44] S S') (fun S' t => pB dC dI (AL L s.heap.size) (va_pl L S') (cyT cy) t) (AL L s.heap.size)) [.ref v, .ref b, .ref w].toArray s 0 0 (AL L s.heap.size)) (F0 m 28 ls []) := by
    intro fuel
    induction fuel with
    | zero => intro i SS H locs ls h; exact absurd h (Nat.not_lt_zero _)
    | succ fu28 ih28 =>
      intro i S_20 H locs ls hm28 hb_i hTy hFr hFl28 hW hl
      have hS_w := hFl28.at hT_w (by decide) hS_w
      have hS_v := hFl28.at hT_v (by decide) hS_v
      refine lv_iload_n hx hb dX9_prepare_28 rfl (lv_at hl 0 rfl) ?_
      refine lv_aload_n hx hb dX9_prepare_29 rfl (lv_at hl 1 rfl) ?_
      refine pl_get (ci := 9) (v := .int (nI x_2)) (C := RX9) (T := TX9) (N := 13) hx hb hT iX9 hown hK hW hT_v.1 hS_v rfl 11 (by decide) w278 rfl dX9_prepare_30 ?_
      refine lv_icmp_ge (tgt := 121) hx hb dX9_prepare_33 (by decide) (fun c_33 => ?_) (fun c_33 => ?_)
      · have c_33 : x_2 ≤ i := (nI_leI (a := x_2) (b := i) (by omega) (by omega)).mp c_33
        exact W.vret hx hb hr (fun t ht h9 => ⟨⟨S_20, rfl, ⟨hTy, hFr⟩, by rw [ht]; exact hW.1, va_K.moved h9.alike hK, hW.2.1⟩, hW.2.2.F ht⟩) hW.2.2.2.2 dX9_prepare_121
      · have c_33 : ¬ (x_2 ≤ i) := fun hh9 => c_33 ((nI_leI (a := x_2) (b := i) (by omega) (by omega)).mpr hh9)
        refine lv_aload_n hx hb dX9_prepare_36 rfl (lv_at hl 1 rfl) ?_
        refine pl_get (ci := 9) (v := .ref x_8) (C := RX9) (T := TX9) (N := 13) hx hb hT iX9 hown hK hW hT_v.1 hS_v rfl 5 (by decide) w272 rfl dX9_prepare_37 ?_
        refine lv_iload_n hx hb dX9_prepare_40 rfl (lv_at hl 0 rfl) ?_
        refine lv_aload_n hx hb dX9_prepare_41 rfl (lv_at hl 3 rfl) ?_
        refine lv_iload_n hx hb dX9_prepare_42 rfl (lv_at hl 0 rfl) ?_
        refine vp_callSl (va_Run.run (va_runV (As := [.int (nI i)]) (rest := [.int (nI i), .ref x_8]) ⟨hx, hb, hml, hown, hT⟩ (s_netOf l dC dI cy L kap pr S_20 H.size w i hTy hT_w (by omega)) (cwV 1 hT (gV w738 w739 w740 w8 w741) rfl rfl rfl (by decide +kernel) ⟨(Nat.le_of_ble_eq_true rfl), (Nat.le_of_ble_eq_true rfl)⟩) ⟨pcN.blind, pl_recv hK hW hT_w.1 hS_w rfl, pcN.pre hW.1 hK hW.2.1 hN (fun q h => absurd h List.not_mem_nil)⟩ rfl rfl hl.1 rfl (lv_room (Nat.le_of_ble_eq_true rfl)) dX9_prepare_43 ⟨(Nat.le_of_ble_eq_true rfl), (Nat.le_of_ble_eq_true rfl)⟩)) (fun r_21 hr_21 => ?_)
        obtain ⟨f_22, hS_x_8⟩ := hTy.k44 hT_x_8
        refine pl_last hx hb hK hW hT_x_8.1 hS_x_8 (vp_in_nI (n := i) (N := 8) (by omega) (by omega)) dX9_prepare_46 (fun H locs f_24 S_23 ef_f_24 e1 hW => ?_)
        have hTy := hTy.u44 e1 hT_x_8 ⟨f_24, rfl⟩
        have hS_w := un e1 hT_w hT_x_8 (by decide) hS_w
        have hS_v := un e1 hT_v hT_x_8 (by decide) hS_v
        have hFr := uf hFr e1 hT_x_8 (by decide) (by decide)
        have hFl28 := uf hFl28 e1 hT_x_8 (by decide) (by decide)
        have hS_x_8 := us e1
        refine lv_aload_n hx hb dX9_prepare_47 rfl (lv_at hl 1 rfl) ?_
        refine pl_get (ci := 9) (v := .ref x_7) (C := RX9) (T := TX9) (N := 13) hx hb hT iX9 hown hK hW hT_v.1 hS_v rfl 4 (by decide) w271 rfl dX9_prepare_48 ?_
        refine lv_iload_n hx hb dX9_prepare_51 rfl (lv_at hl 0 rfl) ?_
        refine lv_aload_n hx hb dX9_prepare_52 rfl (lv_at hl 2 rfl) ?_
        obtain ⟨x_25, x_26, x_27, x_28, x_29, x_30, x_31, x_32, hS_b, hT_x_25, hT_x_26, hT_x_27, hT_x_28, hT_x_29, hT_x_30, hb_x_31⟩ := hTy.k0 hT_b
        refine pl_get (ci := 0) (v := .int x_32) (C := RX0) (T := TX0) (N := 8) hx hb hT iX0 hown hK hW hT_b.1 hS_b rfl 7 (by decide) w117 rfl dX9_prepare_53 ?_
        refine lv_iconst (v := 3) hx hb dX9_prepare_56 (by decide) ?_
        refine lv_icmp_ne (tgt := 68) hx hb dX9_prepare_57 (by decide) (fun c_57 => ?_) (fun c_57 => ?_)
        · refine lv_ldc2 (v := 1125899906842624) hx hb hown (hT _ w761) dX9_prepare_68 ?_
          obtain ⟨f_33, hS_x_7⟩ := hTy.k33 hT_x_7
          refine pl_last hx hb hK hW hT_x_7.1 hS_x_7 (vp_in_nI (n := i) (N := 8) (by omega) (by omega)) dX9_prepare_71 (fun H locs f_35 S_34 ef_f_35 e1 hW => ?_)
          have hTy := hTy.u33 e1 hT_x_7 ⟨f_35, rfl⟩
          have hS_w := un e1 hT_w hT_x_7 (by decide) hS_w
          have hS_v := un e1 hT_v hT_x_7 (by decide) hS_v
          have hS_x_8 := un e1 hT_x_8 hT_x_7 (by decide) hS_x_8
          have hS_b := un e1 hT_b hT_x_7 (by decide) hS_b
          have hFr := uf hFr e1 hT_x_7 (by decide) (by decide)
          have hFl28 := uf hFl28 e1 hT_x_7 (by decide) (by decide)
          have hS_x_7 := us e1
          refine lv_iconst (v := 0) hx hb dX9_prepare_72 (by decide) ?_
          refine lv_istore (lv' := [(4, .int 0), (3, .int (nI i)), (0, .ref v), (1, .ref b), (2, .ref w)]) hx hb dX9_prepare_73 hl (by decide) rfl (fun ls hl => ?_)
          have loop : ∀ (fuel : Nat) (j : Nat) (SS : Nat → va_E) (H : Heap) (locs : List Loc) (ls : Array Slot), 9 - j < fuel → (j ≤ 8) → Ty cy L kap pr SS → Fr kap [9, 29, 33, 44] S SS → Fr kap [29, 33, 44] S_34 SS → PW dC dI L (AL L s.heap.size) s.heap SS H locs → lv_has ls 5 [(4, .int (nI j)), (3, .int (nI i)), (0, .ref v), (1, .ref b), (2, .ref w)] → W p l e (headSpec (wT yX9_prepare cX9_prepare 5 none) { frames := 4, cells := 0, slots := 0, locals := 87 }).room s m [.ref v, .ref b, .ref w].toArray below meth c H locs 0 0 (MQ below (va_Qv (fun S' => Ty cy L kap pr S' ∧ Fr kap [9, 29, 33, 44] S S') (fun S' t => pB dC dI (AL L s.heap.size) (va_pl L S') (cyT cy) t) (AL L s.heap.size)) [.ref v, .ref b, .ref w].toArray s 0 0 (AL L s.heap.size)) (F0 m 75 ls []) := by
            intro fuel
            induction fuel with
            | zero => intro j SS H locs ls h; exact absurd h (Nat.not_lt_zero _)
            | succ fu75 ih75 =>
              intro j S_36 H locs ls hm75 hb_j hTy hFr hFl75 hW hl
              have hS_w := hFl75.at hT_w (by decide) hS_w
              have hS_v := hFl75.at hT_v (by decide) hS_v
              have hS_b := hFl75.at hT_b (by decide) hS_b
              have hFl28 := hFl28.tr hFl75 (by decide)
              refine lv_iload hx hb dX9_prepare_75 (lv_at hl 0 rfl) ?_
              refine lv_aload_n hx hb dX9_prepare_77 rfl (lv_at hl 2 rfl) ?_
              refine pl_get (ci := 9) (v := .int (nI x_2)) (C := RX9) (T := TX9) (N := 13) hx hb hT iX9 hown hK hW hT_v.1 hS_v rfl 11 (by decide) w278 rfl dX9_prepare_78 ?_
              refine lv_icmp_ge (tgt := 115) hx hb dX9_prepare_81 (by decide) (fun c_81 => ?_) (fun c_81 => ?_)
              · have c_81 : x_2 ≤ j := (nI_leI (a := x_2) (b := j) (by omega) (by omega)).mp c_81
                refine lv_iinc (v := nI (i + 1)) (lv' := [(3, .int (nI (i + 1))), (4, .int (nI j)), (0, .ref v), (1, .ref b), (2, .ref w)]) hx hb dX9_prepare_115 hl (k := 1) rfl (nI_add (i) 1) (by decide) rfl (fun ls hl => ?_)
                refine lv_goto (tgt := 28) hx hb dX9_prepare_118 (by decide) ?_
                exact ih28 (i + 1) _ _ _ ls (by omega) (by omega) hTy hFr hFl28 hW (lv_sub hl [0, 2, 3, 4] rfl)
              · have c_81 : ¬ (x_2 ≤ j) := fun hh9 => c_81 ((nI_leI (a := x_2) (b := j) (by omega) (by omega)).mpr hh9)
                refine lv_iload_n hx hb dX9_prepare_84 rfl (lv_at hl 1 rfl) ?_
                refine lv_iload hx hb dX9_prepare_85 (lv_at hl 0 rfl) ?_
                refine lv_icmp_eq (tgt := 109) hx hb dX9_prepare_87 (by decide) (fun c_87 => ?_) (fun c_87 => ?_)
                · have c_87 : i = j := (nI_eq (a := i) (b := j) (by omega) (by omega)).mp c_87
                  refine lv_iinc (v := nI (j + 1)) (lv' := [(4, .int (nI (j + 1))), (3, .int (nI i)), (0, .ref v), (1, .ref b), (2, .ref w)]) hx hb dX9_prepare_109 hl (k := 0) rfl (nI_add (j) 1) (by decide) rfl (fun ls hl => ?_)
                  refine lv_goto (tgt := 75) hx hb dX9_prepare_112 (by decide) ?_
                  exact ih75 (j + 1) _ _ _ ls (by omega) (by omega) hTy hFr hFl75 hW (lv_sub hl [0, 1, 2, 3, 4] rfl)
                · have c_87 : ¬ (i = j) := fun hh9 => c_87 ((nI_eq (a := i) (b := j) (by omega) (by omega)).mpr hh9)
                  refine lv_aload_n hx hb dX9_prepare_90 rfl (lv_at hl 2 rfl) ?_
                  refine pl_get (ci := 9) (v := .ref x_3) (C := RX9) (T := TX9) (N := 13) hx hb hT iX9 hown hK hW hT_v.1 hS_v rfl 0 (by decide) w263 rfl dX9_prepare_91 ?_
                  refine lv_iload_n hx hb dX9_prepare_94 rfl (lv_at hl 1 rfl) ?_
                  refine lv_iload hx hb dX9_prepare_95 (lv_at hl 0 rfl) ?_
                  refine vp_callSi (va_Run.run (va_runSN (As := [.int (nI i), .int (nI j)]) (rest := [.ref x_3]) ⟨hx, hb, hml, hown, hT⟩ (s_cell l dC dI H.size i j (by omega) (by omega)) ⟨va_cnB 2 hT (gT w577) rfl rfl rfl (hN (RX9, 70, yX11_cell, RX11) (by decide +kernel)) (hT _ w1) (by decide +kernel) ⟨(Nat.le_of_ble_eq_true rfl), (Nat.le_of_ble_eq_true rfl)⟩, (hT _ w576), trivial⟩ ⟨pcW.blind, pcW.pre (va_P0 _ _ _) (hK.sub (tys' := []) [] rfl) (va_D0 (fun _ => True))⟩ rfl rfl hl.1 rfl (lv_room (Nat.le_of_ble_eq_true rfl)) dX9_prepare_97 ⟨(Nat.le_of_ble_eq_true rfl), (Nat.le_of_ble_eq_true rfl)⟩)) (fun r_37 hr_37 => ?_)
                  obtain rfl : r_37 = nI (i * 8 + j) := hr_37
                  refine lv_aload_n hx hb dX9_prepare_100 rfl (lv_at hl 3 rfl) ?_
                  refine lv_aload_n hx hb dX9_prepare_101 rfl (lv_at hl 4 rfl) ?_
                  refine lv_iload_n hx hb dX9_prepare_102 rfl (lv_at hl 1 rfl) ?_
                  refine lv_iload hx hb dX9_prepare_103 (lv_at hl 0 rfl) ?_
                  refine vp_callSl (va_Run.run (va_runSN (As := [.ref b, .ref w, .int (nI i), .int (nI j)]) (rest := [.int (nI (i * 8 + j)), .ref x_3]) ⟨hx, hb, hml, hown, hT⟩ (s_boundOf l dC dI cy L kap pr S_36 H.size b w i j hTy hT_b hT_w (by omega) (by omega)) ⟨va_cnB 4 hT (gT w765) rfl rfl rfl (hN (RX9, 74, yX11_boundOf, RX11) (by decide +kernel)) (hT _ w1) (by decide +kernel) ⟨(Nat.le_of_ble_eq_true rfl), (Nat.le_of_ble_eq_true rfl)⟩, (hT _ w764), trivial⟩ ⟨pcN.blind, pcN.pre hW.1 hK hW.2.1 hN (fun q h => absurd h List.not_mem_nil)⟩ rfl rfl hl.1 rfl (lv_room (Nat.le_of_ble_eq_true rfl)) dX9_prepare_105 ⟨(Nat.le_of_ble_eq_true rfl), (Nat.le_of_ble_eq_true rfl)⟩)) (fun r_38 hr_38 => ?_)
                  obtain ⟨f_39, hS_x_3⟩ := hTy.k29 hT_x_3
                  refine pl_last hx hb hK hW hT_x_3.1 hS_x_3 (vp_in_nI (n := i * 8 + j) (N := 64) (by omega) (by omega)) dX9_prepare_108 (fun H locs f_41 S_40 ef_f_41 e1 hW => ?_)
                  have hTy := hTy.u29 e1 hT_x_3 ⟨f_41, rfl⟩
                  have hS_w := un e1 hT_w hT_x_3 (by decide) hS_w
                  have hS_v := un e1 hT_v hT_x_3 (by decide) hS_v
                  have hS_b := un e1 hT_b hT_x_3 (by decide) hS_b
                  have hFr := uf hFr e1 hT_x_3 (by decide) (by decide)
                  have hFl28 := uf hFl28 e1 hT_x_3 (by decide) (by decide)
                  have hFl75 := uf hFl75 e1 hT_x_3 (by decide) (by decide)
                  have hS_x_3 := us e1
                  refine lv_iinc (v := nI (j + 1)) (lv' := [(4, .int (nI (j + 1))), (3, .int (nI i)), (0, .ref v), (1, .ref b), (2, .ref w)]) hx hb dX9_prepare_109 hl (k := 0) rfl (nI_add (j) 1) (by decide) rfl (fun ls hl => ?_)
                  refine lv_goto (tgt := 75) hx hb dX9_prepare_112 (by decide) ?_
                  exact ih75 (j + 1) _ _ _ ls (by omega) (by omega) hTy hFr hFl75 hW (lv_sub hl [0, 1, 2, 3, 4] rfl)
          exact loop ((9 - 0) + 1) 0 _ _ _ ls (Nat.lt_succ_self _) (by omega) hTy hFr Fr.rf hW (lv_sub hl [0, 1, 2, 3, 4] rfl)
        · refine lv_aload_n hx hb dX9_prepare_60 rfl (lv_at hl 3 rfl) ?_
          refine lv_iload_n hx hb dX9_prepare_61 rfl (lv_at hl 0 rfl) ?_
          refine vp_callSl (va_Run.run (va_runV (As := [.int (nI i)]) (rest := [.int (nI i), .ref x_7]) ⟨hx, hb, hml, hown, hT⟩ (s_throughOf l dC dI cy L kap pr S_23 H.size w i hTy hT_w (by omega)) (cwV 1 hT (gV w756 w757 w758 w8 w759) rfl rfl rfl (by decide +kernel) ⟨(Nat.le_of_ble_eq_true rfl), (Nat.le_of_ble_eq_true rfl)⟩) ⟨pcN.blind, pl_recv hK hW hT_w.1 hS_w rfl, pcN.pre hW.1 hK hW.2.1 hN (fun q h => absurd h List.not_mem_nil)⟩ rfl rfl hl.1 rfl (lv_room (Nat.le_of_ble_eq_true rfl)) dX9_prepare_62 ⟨(Nat.le_of_ble_eq_true rfl), (Nat.le_of_ble_eq_true rfl)⟩)) (fun r_42 hr_42 => ?_)
          refine lv_goto (tgt := 71) hx hb dX9_prepare_65 (by decide) ?_
          obtain ⟨f_43, hS_x_7⟩ := hTy.k33 hT_x_7
          refine pl_last hx hb hK hW hT_x_7.1 hS_x_7 (vp_in_nI (n := i) (N := 8) (by omega) (by omega)) dX9_prepare_71 (fun H locs f_45 S_44 ef_f_45 e1 hW => ?_)
          have hTy := hTy.u33 e1 hT_x_7 ⟨f_45, rfl⟩
          have hS_w := un e1 hT_w hT_x_7 (by decide) hS_w
          have hS_v := un e1 hT_v hT_x_7 (by decide) hS_v
          have hS_x_8 := un e1 hT_x_8 hT_x_7 (by decide) hS_x_8
          have hS_b := un e1 hT_b hT_x_7 (by decide) hS_b
          have hFr := uf hFr e1 hT_x_7 (by decide) (by decide)
          have hFl28 := uf hFl28 e1 hT_x_7 (by decide) (by decide)
          have hS_x_7 := us e1
          refine lv_iconst (v := 0) hx hb dX9_prepare_72 (by decide) ?_
          refine lv_istore (lv' := [(4, .int 0), (3, .int (nI i)), (0, .ref v), (1, .ref b), (2, .ref w)]) hx hb dX9_prepare_73 hl (by decide) rfl (fun ls hl => ?_)
          have loop : ∀ (fuel : Nat) (j : Nat) (SS : Nat → va_E) (H : Heap) (locs : List Loc) (ls : Array Slot), 9 - j < fuel → (j ≤ 8) → Ty cy L kap pr SS → Fr kap [9, 29, 33, 44] S SS → Fr kap [29, 33, 44] S_44 SS → PW dC dI L (AL L s.heap.size) s.heap SS H locs → lv_has ls 5 [(4, .int (nI j)), (3, .int (nI i)), (0, .ref v), (1, .ref b), (2, .ref w)] → W p l e (headSpec (wT yX9_prepare cX9_prepare 5 none) { frames := 4, cells := 0, slots := 0, locals := 87 }).room s m [.ref v, .ref b, .ref w].toArray below meth c H locs 0 0 (MQ below (va_Qv (fun S' => Ty cy L kap pr S' ∧ Fr kap [9, 29, 33, 44] S S') (fun S' t => pB dC dI (AL L s.heap.size) (va_pl L S') (cyT cy) t) (AL L s.heap.size)) [.ref v, .ref b, .ref w].toArray s 0 0 (AL L s.heap.size)) (F0 m 75 ls []) := by
            intro fuel
            induction fuel with
            | zero => intro j SS H locs ls h; exact absurd h (Nat.not_lt_zero _)
            | succ fu75 ih75 =>
              intro j S_46 H locs ls hm75 hb_j hTy hFr hFl75 hW hl
              have hS_w := hFl75.at hT_w (by decide) hS_w
              have hS_v := hFl75.at hT_v (by decide) hS_v
              have hS_b := hFl75.at hT_b (by decide) hS_b
              have hFl28 := hFl28.tr hFl75 (by decide)
              refine lv_iload hx hb dX9_prepare_75 (lv_at hl 0 rfl) ?_
              refine lv_aload_n hx hb dX9_prepare_77 rfl (lv_at hl 2 rfl) ?_
              refine pl_get (ci := 9) (v := .int (nI x_2)) (C := RX9) (T := TX9) (N := 13) hx hb hT iX9 hown hK hW hT_v.1 hS_v rfl 11 (by decide) w278 rfl dX9_prepare_78 ?_
              refine lv_icmp_ge (tgt := 115) hx hb dX9_prepare_81 (by decide) (fun c_81 => ?_) (fun c_81 => ?_)
              · have c_81 : x_2 ≤ j := (nI_leI (a := x_2) (b := j) (by omega) (by omega)).mp c_81
                refine lv_iinc (v := nI (i + 1)) (lv' := [(3, .int (nI (i + 1))), (4, .int (nI j)), (0, .ref v), (1, .ref b), (2, .ref w)]) hx hb dX9_prepare_115 hl (k := 1) rfl (nI_add (i) 1) (by decide) rfl (fun ls hl => ?_)
                refine lv_goto (tgt := 28) hx hb dX9_prepare_118 (by decide) ?_
                exact ih28 (i + 1) _ _ _ ls (by omega) (by omega) hTy hFr hFl28 hW (lv_sub hl [0, 2, 3, 4] rfl)
              · have c_81 : ¬ (x_2 ≤ j) := fun hh9 => c_81 ((nI_leI (a := x_2) (b := j) (by omega) (by omega)).mpr hh9)
                refine lv_iload_n hx hb dX9_prepare_84 rfl (lv_at hl 1 rfl) ?_
                refine lv_iload hx hb dX9_prepare_85 (lv_at hl 0 rfl) ?_
                refine lv_icmp_eq (tgt := 109) hx hb dX9_prepare_87 (by decide) (fun c_87 => ?_) (fun c_87 => ?_)
                · have c_87 : i = j := (nI_eq (a := i) (b := j) (by omega) (by omega)).mp c_87
                  refine lv_iinc (v := nI (j + 1)) (lv' := [(4, .int (nI (j + 1))), (3, .int (nI i)), (0, .ref v), (1, .ref b), (2, .ref w)]) hx hb dX9_prepare_109 hl (k := 0) rfl (nI_add (j) 1) (by decide) rfl (fun ls hl => ?_)
                  refine lv_goto (tgt := 75) hx hb dX9_prepare_112 (by decide) ?_
                  exact ih75 (j + 1) _ _ _ ls (by omega) (by omega) hTy hFr hFl75 hW (lv_sub hl [0, 1, 2, 3, 4] rfl)
                · have c_87 : ¬ (i = j) := fun hh9 => c_87 ((nI_eq (a := i) (b := j) (by omega) (by omega)).mpr hh9)
                  refine lv_aload_n hx hb dX9_prepare_90 rfl (lv_at hl 2 rfl) ?_
                  refine pl_get (ci := 9) (v := .ref x_3) (C := RX9) (T := TX9) (N := 13) hx hb hT iX9 hown hK hW hT_v.1 hS_v rfl 0 (by decide) w263 rfl dX9_prepare_91 ?_
                  refine lv_iload_n hx hb dX9_prepare_94 rfl (lv_at hl 1 rfl) ?_
                  refine lv_iload hx hb dX9_prepare_95 (lv_at hl 0 rfl) ?_
                  refine vp_callSi (va_Run.run (va_runSN (As := [.int (nI i), .int (nI j)]) (rest := [.ref x_3]) ⟨hx, hb, hml, hown, hT⟩ (s_cell l dC dI H.size i j (by omega) (by omega)) ⟨va_cnB 2 hT (gT w577) rfl rfl rfl (hN (RX9, 70, yX11_cell, RX11) (by decide +kernel)) (hT _ w1) (by decide +kernel) ⟨(Nat.le_of_ble_eq_true rfl), (Nat.le_of_ble_eq_true rfl)⟩, (hT _ w576), trivial⟩ ⟨pcW.blind, pcW.pre (va_P0 _ _ _) (hK.sub (tys' := []) [] rfl) (va_D0 (fun _ => True))⟩ rfl rfl hl.1 rfl (lv_room (Nat.le_of_ble_eq_true rfl)) dX9_prepare_97 ⟨(Nat.le_of_ble_eq_true rfl), (Nat.le_of_ble_eq_true rfl)⟩)) (fun r_47 hr_47 => ?_)
                  obtain rfl : r_47 = nI (i * 8 + j) := hr_47
                  refine lv_aload_n hx hb dX9_prepare_100 rfl (lv_at hl 3 rfl) ?_
                  refine lv_aload_n hx hb dX9_prepare_101 rfl (lv_at hl 4 rfl) ?_
                  refine lv_iload_n hx hb dX9_prepare_102 rfl (lv_at hl 1 rfl) ?_
                  refine lv_iload hx hb dX9_prepare_103 (lv_at hl 0 rfl) ?_
                  refine vp_callSl (va_Run.run (va_runSN (As := [.ref b, .ref w, .int (nI i), .int (nI j)]) (rest := [.int (nI (i * 8 + j)), .ref x_3]) ⟨hx, hb, hml, hown, hT⟩ (s_boundOf l dC dI cy L kap pr S_46 H.size b w i j hTy hT_b hT_w (by omega) (by omega)) ⟨va_cnB 4 hT (gT w765) rfl rfl rfl (hN (RX9, 74, yX11_boundOf, RX11) (by decide +kernel)) (hT _ w1) (by decide +kernel) ⟨(Nat.le_of_ble_eq_true rfl), (Nat.le_of_ble_eq_true rfl)⟩, (hT _ w764), trivial⟩ ⟨pcN.blind, pcN.pre hW.1 hK hW.2.1 hN (fun q h => absurd h List.not_mem_nil)⟩ rfl rfl hl.1 rfl (lv_room (Nat.le_of_ble_eq_true rfl)) dX9_prepare_105 ⟨(Nat.le_of_ble_eq_true rfl), (Nat.le_of_ble_eq_true rfl)⟩)) (fun r_48 hr_48 => ?_)
                  obtain ⟨f_49, hS_x_3⟩ := hTy.k29 hT_x_3
                  refine pl_last hx hb hK hW hT_x_3.1 hS_x_3 (vp_in_nI (n := i * 8 + j) (N := 64) (by omega) (by omega)) dX9_prepare_108 (fun H locs f_51 S_50 ef_f_51 e1 hW => ?_)
                  have hTy := hTy.u29 e1 hT_x_3 ⟨f_51, rfl⟩
                  have hS_w := un e1 hT_w hT_x_3 (by decide) hS_w
                  have hS_v := un e1 hT_v hT_x_3 (by decide) hS_v
                  have hS_b := un e1 hT_b hT_x_3 (by decide) hS_b
                  have hFr := uf hFr e1 hT_x_3 (by decide) (by decide)
                  have hFl28 := uf hFl28 e1 hT_x_3 (by decide) (by decide)
                  have hFl75 := uf hFl75 e1 hT_x_3 (by decide) (by decide)
                  have hS_x_3 := us e1
                  refine lv_iinc (v := nI (j + 1)) (lv' := [(4, .int (nI (j + 1))), (3, .int (nI i)), (0, .ref v), (1, .ref b), (2, .ref w)]) hx hb dX9_prepare_109 hl (k := 0) rfl (nI_add (j) 1) (by decide) rfl (fun ls hl => ?_)
                  refine lv_goto (tgt := 75) hx hb dX9_prepare_112 (by decide) ?_
                  exact ih75 (j + 1) _ _ _ ls (by omega) (by omega) hTy hFr hFl75 hW (lv_sub hl [0, 1, 2, 3, 4] rfl)
          exact loop ((9 - 0) + 1) 0 _ _ _ ls (Nat.lt_succ_self _) (by omega) hTy hFr Fr.rf hW (lv_sub hl [0, 1, 2, 3, 4] rfl)
  exact loop ((9 - 0) + 1) 0 _ _ _ ls (Nat.lt_succ_self _) (by omega) hTy hFr Fr.rf hW (lv_sub hl [0, 1, 2, 3] rfl)

set_option maxHeartbeats 4000000 in
set_option maxRecDepth 100000 in
theorem s_solve (l : Launch) (dC : Nat → ClassId) (dI : Nat → Nat → Nat) (cy : Nat → ClassId) (L : List Nat) (kap : Nat → Nat) (pr : Pr) (S : Nat → va_E) (sz : Nat) (v : Nat) (hTy : Ty cy L kap pr S) (hT_v : TK L kap v 9) : Met l yX9_solve (wT yX9_solve cX9_solve 3 none) ({ frames := 3, cells := 0, slots := 0, locals := 88 }) (pcN dC dI [.ref v] sz (va_pl L S) (cyT cy) NLs []) (va_Qv (fun S' => Ty cy L kap pr S' ∧ Fr kap [9, 35, 36, 37, 38, 45] S S') (fun S' t => pB dC dI (AL L sz) (va_pl L S') (cyT cy) t) (AL L sz)) 0 0 (AL L sz) := by
  refine Met.ofW (cc := cX9_solve) (maxL := 3) (ret := none) (by decide) rfl ?_
  intro p e s m args below meth c s₁ B hml hv
  obtain ⟨rfl, hsz, hP, hK, hD0, hN, -⟩ := hv
  have hx := B.exec
  have hb := B.bytes
  have hr := B.returns
  have hT : ∀ wd ∈ TB, wd.before [.ref v].toArray s = true := fun wd h => atoms_spec (ws := wT yX9_solve cX9_solve 3 none) B.pre wd (List.mem_cons_of_mem _ h)
  have hown : s.vm.findClass RX9 = some m.cls := findClass_of_methodNamed B.named
  have hlocks := B.notSynchronized
  subst hsz
  have hW : PW dC dI L (AL L s.heap.size) s.heap S s.heap [] := ⟨hP, pl_self hD0, va_S.rf⟩
  have hA0 : ∀ q, q ∈ L → AL L s.heap.size q := fun _ h => Or.inl h
  have hA : ∀ q, s.heap.size ≤ q → AL L s.heap.size q := fun _ h => Or.inr h
  have hFr : Fr kap [9, 35, 36, 37, 38, 45] S S := Fr.rf
  have hl := lv_entry ([.ref v]) (n := 3) (Nat.le_of_ble_eq_true rfl)
  rw [lg_entry_eq]
  generalize (lg_sl ([.ref v]) ++ List.replicate (3 - (lg_sl ([.ref v])).length) Slot.unset).toArray = ls at hl ⊢
  have hl : lv_has ls 3 [(0, .ref v)] := hl
  refine lv_aload_n hx hb dX9_solve_0 rfl (lv_at hl 0 rfl) ?_
  obtain ⟨x_1, x_2, x_3, x_4, x_5, x_6, x_7, x_8, x_9, x_10, x_11, x_12, x_13, hS_v, hT_x_1, hT_x_2, hT_x_5, hT_x_6, hT_x_7, hT_x_8, hT_x_9, hT_x_10, hT_x_11, hb_x_12, hb_x_13⟩ := hTy.k9 hT_v
  refine pl_get (ci := 9) (v := .ref x_7) (C := RX9) (T := TX9) (N := 13) hx hb hT iX9 hown hK hW hT_v.1 hS_v rfl 6 (by decide) w273 rfl dX9_solve_1 ?_
  refine lv_lconst (v := 0) hx hb dX9_solve_4 (by decide) ?_
  refine pl_callv (va_runS (As := [.ref x_7, .long 0]) (rest := []) ⟨hx, hb, hml, hown, hT⟩ (s_fillJ45 l dC dI cy L kap pr S s.heap.size x_7 0 hTy hT_x_7) (va_cwS 2 hT (gS w737 w678 w6 w679) rfl rfl rfl (by decide +kernel) ⟨(Nat.le_of_ble_eq_true rfl), (Nat.le_of_ble_eq_true rfl)⟩) ⟨pcN.blind, pcN.pre hW.1 hK hW.2.1 hN (fun q h => absurd h List.not_mem_nil)⟩ rfl rfl hl.1 rfl (lv_room (Nat.le_of_ble_eq_true rfl)) dX9_solve_5 ⟨(Nat.le_of_ble_eq_true rfl), (Nat.le_of_ble_eq_true rfl)⟩) hW hA0 hA (fun S_14 H locs hrel hW => ?_)
  obtain ⟨hTy, hF1⟩ := hrel
  have hFr := hFr.tr hF1 (by decide)
  have hS_v := hF1.at hT_v (by decide) hS_v
  refine lv_aload_n hx hb dX9_solve_8 rfl (lv_at hl 0 rfl) ?_
  refine pl_get (ci := 9) (v := .ref x_8) (C := RX9) (T := TX9) (N := 13) hx hb hT iX9 hown hK hW hT_v.1 hS_v rfl 7 (by decide) w274 rfl dX9_solve_9 ?_
  refine lv_iconst (v := 0) hx hb dX9_solve_12 (by decide) ?_
  refine pl_callv (va_runS (As := [.ref x_8, .int 0]) (rest := []) ⟨hx, hb, hml, hown, hT⟩ (s_fillI35 l dC dI cy L kap pr S_14 H.size x_8 0 hTy hT_x_8) (va_cwS 2 hT (gS w770 w86 w6 w87) rfl rfl rfl (by decide +kernel) ⟨(Nat.le_of_ble_eq_true rfl), (Nat.le_of_ble_eq_true rfl)⟩) ⟨pcN.blind, pcN.pre hW.1 hK hW.2.1 hN (fun q h => absurd h List.not_mem_nil)⟩ rfl rfl hl.1 rfl (lv_room (Nat.le_of_ble_eq_true rfl)) dX9_solve_13 ⟨(Nat.le_of_ble_eq_true rfl), (Nat.le_of_ble_eq_true rfl)⟩) hW hA0 hA (fun S_15 H locs hrel hW => ?_)
  obtain ⟨hTy, hF1⟩ := hrel
  have hFr := hFr.tr hF1 (by decide)
  have hS_v := hF1.at hT_v (by decide) hS_v
  refine lv_aload_n hx hb dX9_solve_16 rfl (lv_at hl 0 rfl) ?_
  refine pl_get (ci := 9) (v := .ref x_9) (C := RX9) (T := TX9) (N := 13) hx hb hT iX9 hown hK hW hT_v.1 hS_v rfl 8 (by decide) w275 rfl dX9_solve_17 ?_
  refine lv_lconst (v := 0) hx hb dX9_solve_20 (by decide) ?_
  refine pl_callv (va_runS (As := [.ref x_9, .long 0]) (rest := []) ⟨hx, hb, hml, hown, hT⟩ (s_fillJ36 l dC dI cy L kap pr S_15 H.size x_9 0 hTy hT_x_9) (va_cwS 2 hT (gS w737 w678 w6 w679) rfl rfl rfl (by decide +kernel) ⟨(Nat.le_of_ble_eq_true rfl), (Nat.le_of_ble_eq_true rfl)⟩) ⟨pcN.blind, pcN.pre hW.1 hK hW.2.1 hN (fun q h => absurd h List.not_mem_nil)⟩ rfl rfl hl.1 rfl (lv_room (Nat.le_of_ble_eq_true rfl)) dX9_solve_21 ⟨(Nat.le_of_ble_eq_true rfl), (Nat.le_of_ble_eq_true rfl)⟩) hW hA0 hA (fun S_16 H locs hrel hW => ?_)
  obtain ⟨hTy, hF1⟩ := hrel
  have hFr := hFr.tr hF1 (by decide)
  have hS_v := hF1.at hT_v (by decide) hS_v
  refine lv_iconst (v := 0) hx hb dX9_solve_24 (by decide) ?_
  refine lv_istore_n (lv' := [(1, .int 0), (0, .ref v)]) hx hb dX9_solve_25 rfl hl (by decide) rfl (fun ls hl => ?_)
  have loop : ∀ (fuel : Nat) (i : Nat) (SS : Nat → va_E) (H : Heap) (locs : List Loc) (ls : Array Slot), 9 - i < fuel → (i ≤ 8) → Ty cy L kap pr SS → Fr kap [9, 35, 36, 37, 38, 45] S SS → Fr kap [36, 45] S_16 SS → PW dC dI L (AL L s.heap.size) s.heap SS H locs → lv_has ls 3 [(1, .int (nI i)), (0, .ref v)] → W p l e (headSpec (wT yX9_solve cX9_solve 3 none) { frames := 3, cells := 0, slots := 0, locals := 88 }).room s m [.ref v].toArray below meth c H locs 0 0 (MQ below (va_Qv (fun S' => Ty cy L kap pr S' ∧ Fr kap [9, 35, 36, 37, 38, 45] S S') (fun S' t => pB dC dI (AL L s.heap.size) (va_pl L S') (cyT cy) t) (AL L s.heap.size)) [.ref v].toArray s 0 0 (AL L s.heap.size)) (F0 m 26 ls []) := by
    intro fuel
    induction fuel with
    | zero => intro i SS H locs ls h; exact absurd h (Nat.not_lt_zero _)
    | succ fu26 ih26 =>
      intro i S_17 H locs ls hm26 hb_i hTy hFr hFl26 hW hl
      have hS_v := hFl26.at hT_v (by decide) hS_v
      refine lv_iload_n hx hb dX9_solve_26 rfl (lv_at hl 0 rfl) ?_
      refine lv_aload_n hx hb dX9_solve_27 rfl (lv_at hl 1 rfl) ?_
      refine pl_get (ci := 9) (v := .int (nI x_12)) (C := RX9) (T := TX9) (N := 13) hx hb hT iX9 hown hK hW hT_v.1 hS_v rfl 11 (by decide) w278 rfl dX9_solve_28 ?_
      refine lv_icmp_ge (tgt := 128) hx hb dX9_solve_31 (by decide) (fun c_31 => ?_) (fun c_31 => ?_)
      · have c_31 : x_12 ≤ i := (nI_leI (a := x_12) (b := i) (by omega) (by omega)).mp c_31
        refine lv_aload_n hx hb dX9_solve_128 rfl (lv_at hl 1 rfl) ?_
        refine lv_iconst (v := 1) hx hb dX9_solve_129 (by decide) ?_
        refine pl_callv (va_runV (As := [.int 1]) (rest := []) ⟨hx, hb, hml, hown, hT⟩ (s_ship l dC dI cy L kap pr S_17 H.size v 1 hTy hT_v) (cwV 1 hT (gV w788 w790 ws37 w11 w791) rfl rfl rfl (by decide +kernel) ⟨(Nat.le_of_ble_eq_true rfl), (Nat.le_of_ble_eq_true rfl)⟩) ⟨pcN.blind, pl_recv hK hW hT_v.1 hS_v rfl, pcN.pre hW.1 hK hW.2.1 hN (fun q h => absurd h List.not_mem_nil)⟩ rfl rfl hl.1 rfl (lv_room (Nat.le_of_ble_eq_true rfl)) dX9_solve_130 ⟨(Nat.le_of_ble_eq_true rfl), (Nat.le_of_ble_eq_true rfl)⟩) hW hA0 hA (fun S_18 H locs hrel hW => ?_)
        obtain ⟨hTy, hF1⟩ := hrel
        have hFr := hFr.tr hF1 (by decide)
        have hS_v := hF1.at hT_v (by decide) hS_v
        refine lv_aload_n hx hb dX9_solve_133 rfl (lv_at hl 1 rfl) ?_
        refine lv_aload_n hx hb dX9_solve_134 rfl (lv_at hl 1 rfl) ?_
        refine vp_callSi (va_Run.run (va_runV (As := []) (rest := [.ref v]) ⟨hx, hb, hml, hown, hT⟩ (s_nothing l dC dI cy L kap pr S_18 H.size v hTy hT_v) (cwV 0 hT (gV w809 w811 ws42 w11 w812) rfl rfl rfl (by decide +kernel) ⟨(Nat.le_of_ble_eq_true rfl), (Nat.le_of_ble_eq_true rfl)⟩) ⟨pcN.blind, pl_recv hK hW hT_v.1 hS_v rfl, pcN.pre hW.1 hK hW.2.1 hN (fun q h => absurd h List.not_mem_nil)⟩ rfl rfl hl.1 rfl (lv_room (Nat.le_of_ble_eq_true rfl)) dX9_solve_135 ⟨(Nat.le_of_ble_eq_true rfl), (Nat.le_of_ble_eq_true rfl)⟩)) (fun r_19 hr_19 => ?_)
        refine pl_put (ci := 9) (v := .int r_19) (ty := .boolean) (C := RX9) (T := TX9) (N := 13) (fs' := [.ref x_1, .ref x_2, .int r_19, .long x_4, .ref x_5, .ref x_6, .ref x_7, .ref x_8, .ref x_9, .ref x_10, .ref x_11, .int (nI x_12), .int (nI x_13)]) hx hb hT iX9 tyX9 tyX9_ok nmX9 hown hK hW hT_v.1 hS_v rfl 2 (by decide) w267 rfl (by decide +kernel) (nbool hr_19) (fbool hr_19) (Nat.le_of_ble_eq_true rfl) rfl dX9_solve_138 (fun H locs S_20 e1 hW => ?_)
        have hTy := hTy.u9 e1 hT_v ⟨x_1, x_2, r_19, x_4, x_5, x_6, x_7, x_8, x_9, x_10, x_11, x_12, x_13, rfl, hT_x_1, hT_x_2, hT_x_5, hT_x_6, hT_x_7, hT_x_8, hT_x_9, hT_x_10, hT_x_11, (by omega), (by omega)⟩
        have hFr := uf hFr e1 hT_v (by decide) (by decide)
        have hS_v := us e1
        refine lv_aload_n hx hb dX9_solve_141 rfl (lv_at hl 1 rfl) ?_
        refine lv_aload_n hx hb dX9_solve_142 rfl (lv_at hl 1 rfl) ?_
        refine vp_callSl (va_Run.run (va_runV (As := []) (rest := [.ref v]) ⟨hx, hb, hml, hown, hT⟩ (s_together l dC dI cy L kap pr S_20 H.size v hTy hT_v) (cwV 0 hT (gV w813 w815 ws43 w11 w816) rfl rfl rfl (by decide +kernel) ⟨(Nat.le_of_ble_eq_true rfl), (Nat.le_of_ble_eq_true rfl)⟩) ⟨pcN.blind, pl_recv hK hW hT_v.1 hS_v rfl, pcN.pre hW.1 hK hW.2.1 hN (fun q h => absurd h List.not_mem_nil)⟩ rfl rfl hl.1 rfl (lv_room (Nat.le_of_ble_eq_true rfl)) dX9_solve_143 ⟨(Nat.le_of_ble_eq_true rfl), (Nat.le_of_ble_eq_true rfl)⟩)) (fun r_21 hr_21 => ?_)
        refine pl_put (ci := 9) (v := .long r_21) (ty := .long) (C := RX9) (T := TX9) (N := 13) (fs' := [.ref x_1, .ref x_2, .int r_19, .long r_21, .ref x_5, .ref x_6, .ref x_7, .ref x_8, .ref x_9, .ref x_10, .ref x_11, .int (nI x_12), .int (nI x_13)]) hx hb hT iX9 tyX9 tyX9_ok nmX9 hown hK hW hT_v.1 hS_v rfl 3 (by decide) w269 rfl (by decide +kernel) rfl rfl (Nat.le_of_ble_eq_true rfl) rfl dX9_solve_146 (fun H locs S_22 e1 hW => ?_)
        have hTy := hTy.u9 e1 hT_v ⟨x_1, x_2, r_19, r_21, x_5, x_6, x_7, x_8, x_9, x_10, x_11, x_12, x_13, rfl, hT_x_1, hT_x_2, hT_x_5, hT_x_6, hT_x_7, hT_x_8, hT_x_9, hT_x_10, hT_x_11, (by omega), (by omega)⟩
        have hFr := uf hFr e1 hT_v (by decide) (by decide)
        have hS_v := us e1
        exact W.vret hx hb hr (fun t ht h9 => ⟨⟨S_22, rfl, ⟨hTy, hFr⟩, by rw [ht]; exact hW.1, va_K.moved h9.alike hK, hW.2.1⟩, hW.2.2.F ht⟩) hW.2.2.2.2 dX9_solve_149
      · have c_31 : ¬ (x_12 ≤ i) := fun hh9 => c_31 ((nI_leI (a := x_12) (b := i) (by omega) (by omega)).mpr hh9)
        refine lv_aload_n hx hb dX9_solve_34 rfl (lv_at hl 1 rfl) ?_
        refine pl_get (ci := 9) (v := .ref x_7) (C := RX9) (T := TX9) (N := 13) hx hb hT iX9 hown hK hW hT_v.1 hS_v rfl 6 (by decide) w273 rfl dX9_solve_35 ?_
        refine lv_iload_n hx hb dX9_solve_38 rfl (lv_at hl 0 rfl) ?_
        refine vp_callSi (va_Run.run (va_runS (As := [.int (nI i)]) (rest := [.ref x_7]) ⟨hx, hb, hml, hown, hT⟩ (s_in l dC dI H.size i (by omega)) (va_cwS 1 hT (gS w771 w772 w11 w773) rfl rfl rfl (by decide +kernel) ⟨(Nat.le_of_ble_eq_true rfl), (Nat.le_of_ble_eq_true rfl)⟩) ⟨pcW.blind, pcW.pre (va_P0 _ _ _) (hK.sub (tys' := []) [] rfl) (va_D0 (fun _ => True))⟩ rfl rfl hl.1 rfl (lv_room (Nat.le_of_ble_eq_true rfl)) dX9_solve_39 ⟨(Nat.le_of_ble_eq_true rfl), (Nat.le_of_ble_eq_true rfl)⟩)) (fun r_23 hr_23 => ?_)
        obtain rfl : r_23 = nI (2 * i) := hr_23
        refine lv_iload_n hx hb dX9_solve_42 rfl (lv_at hl 0 rfl) ?_
        refine vp_callSi (va_Run.run (va_runS (As := [.int (nI i)]) (rest := [.int (nI (2 * i)), .ref x_7]) ⟨hx, hb, hml, hown, hT⟩ (s_out l dC dI H.size i (by omega)) (va_cwS 1 hT (gS w774 w775 w11 w776) rfl rfl rfl (by decide +kernel) ⟨(Nat.le_of_ble_eq_true rfl), (Nat.le_of_ble_eq_true rfl)⟩) ⟨pcW.blind, pcW.pre (va_P0 _ _ _) (hK.sub (tys' := []) [] rfl) (va_D0 (fun _ => True))⟩ rfl rfl hl.1 rfl (lv_room (Nat.le_of_ble_eq_true rfl)) dX9_solve_43 ⟨(Nat.le_of_ble_eq_true rfl), (Nat.le_of_ble_eq_true rfl)⟩)) (fun r_24 hr_24 => ?_)
        obtain rfl : r_24 = nI (2 * i + 1) := hr_24
        refine vp_callSi (va_Run.run (va_runS (As := [.int (nI (2 * i)), .int (nI (2 * i + 1))]) (rest := [.ref x_7]) ⟨hx, hb, hml, hown, hT⟩ (s_step l dC dI H.size (2 * i) (2 * i + 1) (by omega) (by omega)) (va_cwS 2 hT (gS w777 w778 w11 w779) rfl rfl rfl (by decide +kernel) ⟨(Nat.le_of_ble_eq_true rfl), (Nat.le_of_ble_eq_true rfl)⟩) ⟨pcW.blind, pcW.pre (va_P0 _ _ _) (hK.sub (tys' := []) [] rfl) (va_D0 (fun _ => True))⟩ rfl rfl hl.1 rfl (lv_room (Nat.le_of_ble_eq_true rfl)) dX9_solve_46 ⟨(Nat.le_of_ble_eq_true rfl), (Nat.le_of_ble_eq_true rfl)⟩)) (fun r_25 hr_25 => ?_)
        obtain rfl : r_25 = nI ((2 * i) * 16 + (2 * i + 1)) := hr_25
        refine lv_aload_n hx hb dX9_solve_49 rfl (lv_at hl 1 rfl) ?_
        refine pl_get (ci := 9) (v := .ref x_5) (C := RX9) (T := TX9) (N := 13) hx hb hT iX9 hown hK hW hT_v.1 hS_v rfl 4 (by decide) w271 rfl dX9_solve_50 ?_
        refine lv_iload_n hx hb dX9_solve_53 rfl (lv_at hl 0 rfl) ?_
        obtain ⟨f_26, hS_x_5⟩ := hTy.k33 hT_x_5
        refine pl_lald hx hb hK hW hT_x_5.1 hS_x_5 (vp_in_nI (n := i) (N := 8) (by omega) (by omega)) dX9_solve_54 ?_
        refine lv_topl (fun y_27 ey_27 => ?_)
        obtain ⟨f_28, hS_x_7⟩ := hTy.k45 hT_x_7
        refine pl_last hx hb hK hW hT_x_7.1 hS_x_7 (vp_in_nI (n := (2 * i) * 16 + (2 * i + 1)) (N := 256) (by omega) (by omega)) dX9_solve_55 (fun H locs f_30 S_29 ef_f_30 e1 hW => ?_)
        have hTy := hTy.u45 e1 hT_x_7 ⟨f_30, rfl⟩
        have hS_v := un e1 hT_v hT_x_7 (by decide) hS_v
        have hS_x_5 := un e1 hT_x_5 hT_x_7 (by decide) hS_x_5
        have hFr := uf hFr e1 hT_x_7 (by decide) (by decide)
        have hFl26 := uf hFl26 e1 hT_x_7 (by decide) (by decide)
        have hS_x_7 := us e1
        refine lv_aload_n hx hb dX9_solve_56 rfl (lv_at hl 1 rfl) ?_
        refine pl_get (ci := 9) (v := .ref x_9) (C := RX9) (T := TX9) (N := 13) hx hb hT iX9 hown hK hW hT_v.1 hS_v rfl 8 (by decide) w275 rfl dX9_solve_57 ?_
        refine lv_iload_n hx hb dX9_solve_60 rfl (lv_at hl 0 rfl) ?_
        refine vp_callSi (va_Run.run (va_runS (As := [.int (nI i)]) (rest := [.ref x_9]) ⟨hx, hb, hml, hown, hT⟩ (s_out l dC dI H.size i (by omega)) (va_cwS 1 hT (gS w774 w775 w11 w776) rfl rfl rfl (by decide +kernel) ⟨(Nat.le_of_ble_eq_true rfl), (Nat.le_of_ble_eq_true rfl)⟩) ⟨pcW.blind, pcW.pre (va_P0 _ _ _) (hK.sub (tys' := []) [] rfl) (va_D0 (fun _ => True))⟩ rfl rfl hl.1 rfl (lv_room (Nat.le_of_ble_eq_true rfl)) dX9_solve_61 ⟨(Nat.le_of_ble_eq_true rfl), (Nat.le_of_ble_eq_true rfl)⟩)) (fun r_31 hr_31 => ?_)
        obtain rfl : r_31 = nI (2 * i + 1) := hr_31
        refine lv_lconst (v := 0) hx hb dX9_solve_64 (by decide) ?_
        refine lv_aload_n hx hb dX9_solve_65 rfl (lv_at hl 1 rfl) ?_
        refine pl_get (ci := 9) (v := .ref x_6) (C := RX9) (T := TX9) (N := 13) hx hb hT iX9 hown hK hW hT_v.1 hS_v rfl 5 (by decide) w272 rfl dX9_solve_66 ?_
        refine lv_iload_n hx hb dX9_solve_69 rfl (lv_at hl 0 rfl) ?_
        obtain ⟨f_32, hS_x_6⟩ := hTy.k44 hT_x_6
        refine pl_lald hx hb hK hW hT_x_6.1 hS_x_6 (vp_in_nI (n := i) (N := 8) (by omega) (by omega)) dX9_solve_70 ?_
        refine lv_topl (fun y_33 ey_33 => ?_)
        refine va_mmax_long hx hb (hml.trans hl.1.symm) hown (hT _ w780) (hT _ w781) (hT _ w15) (hT _ w782) (Nat.le_of_ble_eq_true rfl) (Nat.le_of_ble_eq_true rfl) (Nat.le_of_ble_eq_true rfl) (Nat.le_of_ble_eq_true rfl) dX9_solve_71 ?_
        refine lv_topl (fun z_34 ez_34 => ?_)
        obtain ⟨f_35, hS_x_9⟩ := hTy.k36 hT_x_9
        refine pl_last hx hb hK hW hT_x_9.1 hS_x_9 (vp_in_nI (n := 2 * i + 1) (N := 16) (by omega) (by omega)) dX9_solve_74 (fun H locs f_37 S_36 ef_f_37 e1 hW => ?_)
        have hTy := hTy.u36 e1 hT_x_9 ⟨f_37, rfl⟩
        have hS_v := un e1 hT_v hT_x_9 (by decide) hS_v
        have hS_x_5 := un e1 hT_x_5 hT_x_9 (by decide) hS_x_5
        have hS_x_7 := un e1 hT_x_7 hT_x_9 (by decide) hS_x_7
        have hS_x_6 := un e1 hT_x_6 hT_x_9 (by decide) hS_x_6
        have hFr := uf hFr e1 hT_x_9 (by decide) (by decide)
        have hFl26 := uf hFl26 e1 hT_x_9 (by decide) (by decide)
        have hS_x_9 := us e1
        refine lv_aload_n hx hb dX9_solve_75 rfl (lv_at hl 1 rfl) ?_
        refine pl_get (ci := 9) (v := .ref x_9) (C := RX9) (T := TX9) (N := 13) hx hb hT iX9 hown hK hW hT_v.1 hS_v rfl 8 (by decide) w275 rfl dX9_solve_76 ?_
        refine lv_iload_n hx hb dX9_solve_79 rfl (lv_at hl 0 rfl) ?_
        refine vp_callSi (va_Run.run (va_runS (As := [.int (nI i)]) (rest := [.ref x_9]) ⟨hx, hb, hml, hown, hT⟩ (s_in l dC dI H.size i (by omega)) (va_cwS 1 hT (gS w771 w772 w11 w773) rfl rfl rfl (by decide +kernel) ⟨(Nat.le_of_ble_eq_true rfl), (Nat.le_of_ble_eq_true rfl)⟩) ⟨pcW.blind, pcW.pre (va_P0 _ _ _) (hK.sub (tys' := []) [] rfl) (va_D0 (fun _ => True))⟩ rfl rfl hl.1 rfl (lv_room (Nat.le_of_ble_eq_true rfl)) dX9_solve_80 ⟨(Nat.le_of_ble_eq_true rfl), (Nat.le_of_ble_eq_true rfl)⟩)) (fun r_38 hr_38 => ?_)
        obtain rfl : r_38 = nI (2 * i) := hr_38
        refine lv_lconst (v := 0) hx hb dX9_solve_83 (by decide) ?_
        refine lv_aload_n hx hb dX9_solve_84 rfl (lv_at hl 1 rfl) ?_
        refine pl_get (ci := 9) (v := .ref x_6) (C := RX9) (T := TX9) (N := 13) hx hb hT iX9 hown hK hW hT_v.1 hS_v rfl 5 (by decide) w272 rfl dX9_solve_85 ?_
        refine lv_iload_n hx hb dX9_solve_88 rfl (lv_at hl 0 rfl) ?_
        refine pl_lald hx hb hK hW hT_x_6.1 hS_x_6 (vp_in_nI (n := i) (N := 8) (by omega) (by omega)) dX9_solve_89 ?_
        refine lv_topl (fun y_39 ey_39 => ?_)
        refine va_mmin_long hx hb (hml.trans hl.1.symm) hown (hT _ w783) (hT _ w716) (hT _ w15) (hT _ w717) (Nat.le_of_ble_eq_true rfl) (Nat.le_of_ble_eq_true rfl) (Nat.le_of_ble_eq_true rfl) (Nat.le_of_ble_eq_true rfl) dX9_solve_90 ?_
        refine lv_topl (fun z_40 ez_40 => ?_)
        refine pl_last hx hb hK hW hT_x_9.1 hS_x_9 (vp_in_nI (n := 2 * i) (N := 16) (by omega) (by omega)) dX9_solve_93 (fun H locs f_42 S_41 ef_f_42 e1 hW => ?_)
        have hTy := hTy.u36 e1 hT_x_9 ⟨f_42, rfl⟩
        have hS_v := un e1 hT_v hT_x_9 (by decide) hS_v
        have hS_x_5 := un e1 hT_x_5 hT_x_9 (by decide) hS_x_5
        have hS_x_7 := un e1 hT_x_7 hT_x_9 (by decide) hS_x_7
        have hS_x_6 := un e1 hT_x_6 hT_x_9 (by decide) hS_x_6
        have hFr := uf hFr e1 hT_x_9 (by decide) (by decide)
        have hFl26 := uf hFl26 e1 hT_x_9 (by decide) (by decide)
        have hS_x_9 := us e1
        refine lv_iconst (v := 0) hx hb dX9_solve_94 (by decide) ?_
        refine lv_istore_n (lv' := [(2, .int 0), (1, .int (nI i)), (0, .ref v)]) hx hb dX9_solve_95 rfl hl (by decide) rfl (fun ls hl => ?_)
        have loop : ∀ (fuel : Nat) (j : Nat) (SS : Nat → va_E) (H : Heap) (locs : List Loc) (ls : Array Slot), 9 - j < fuel → (j ≤ 8) → Ty cy L kap pr SS → Fr kap [9, 35, 36, 37, 38, 45] S SS → Fr kap [36, 45] S_41 SS → PW dC dI L (AL L s.heap.size) s.heap SS H locs → lv_has ls 3 [(2, .int (nI j)), (1, .int (nI i)), (0, .ref v)] → W p l e (headSpec (wT yX9_solve cX9_solve 3 none) { frames := 3, cells := 0, slots := 0, locals := 88 }).room s m [.ref v].toArray below meth c H locs 0 0 (MQ below (va_Qv (fun S' => Ty cy L kap pr S' ∧ Fr kap [9, 35, 36, 37, 38, 45] S S') (fun S' t => pB dC dI (AL L s.heap.size) (va_pl L S') (cyT cy) t) (AL L s.heap.size)) [.ref v].toArray s 0 0 (AL L s.heap.size)) (F0 m 96 ls []) := by
          intro fuel
          induction fuel with
          | zero => intro j SS H locs ls h; exact absurd h (Nat.not_lt_zero _)
          | succ fu96 ih96 =>
            intro j S_43 H locs ls hm96 hb_j hTy hFr hFl96 hW hl
            have hS_v := hFl96.at hT_v (by decide) hS_v
            have hS_x_5 := hFl96.at hT_x_5 (by decide) hS_x_5
            have hS_x_6 := hFl96.at hT_x_6 (by decide) hS_x_6
            have hFl26 := hFl26.tr hFl96 (by decide)
            refine lv_iload_n hx hb dX9_solve_96 rfl (lv_at hl 0 rfl) ?_
            refine lv_aload_n hx hb dX9_solve_97 rfl (lv_at hl 2 rfl) ?_
            refine pl_get (ci := 9) (v := .int (nI x_12)) (C := RX9) (T := TX9) (N := 13) hx hb hT iX9 hown hK hW hT_v.1 hS_v rfl 11 (by decide) w278 rfl dX9_solve_98 ?_
            refine lv_icmp_ge (tgt := 122) hx hb dX9_solve_101 (by decide) (fun c_101 => ?_) (fun c_101 => ?_)
            · have c_101 : x_12 ≤ j := (nI_leI (a := x_12) (b := j) (by omega) (by omega)).mp c_101
              refine lv_iinc (v := nI (i + 1)) (lv' := [(1, .int (nI (i + 1))), (2, .int (nI j)), (0, .ref v)]) hx hb dX9_solve_122 hl (k := 1) rfl (nI_add (i) 1) (by decide) rfl (fun ls hl => ?_)
              refine lv_goto (tgt := 26) hx hb dX9_solve_125 (by decide) ?_
              exact ih26 (i + 1) _ _ _ ls (by omega) (by omega) hTy hFr hFl26 hW (lv_sub hl [0, 2] rfl)
            · have c_101 : ¬ (x_12 ≤ j) := fun hh9 => c_101 ((nI_leI (a := x_12) (b := j) (by omega) (by omega)).mpr hh9)
              refine lv_iload_n hx hb dX9_solve_104 rfl (lv_at hl 1 rfl) ?_
              refine lv_iload_n hx hb dX9_solve_105 rfl (lv_at hl 0 rfl) ?_
              refine lv_icmp_eq (tgt := 116) hx hb dX9_solve_106 (by decide) (fun c_106 => ?_) (fun c_106 => ?_)
              · have c_106 : i = j := (nI_eq (a := i) (b := j) (by omega) (by omega)).mp c_106
                refine lv_iinc (v := nI (j + 1)) (lv' := [(2, .int (nI (j + 1))), (1, .int (nI i)), (0, .ref v)]) hx hb dX9_solve_116 hl (k := 0) rfl (nI_add (j) 1) (by decide) rfl (fun ls hl => ?_)
                refine lv_goto (tgt := 96) hx hb dX9_solve_119 (by decide) ?_
                exact ih96 (j + 1) _ _ _ ls (by omega) (by omega) hTy hFr hFl96 hW (lv_sub hl [0, 1, 2] rfl)
              · have c_106 : ¬ (i = j) := fun hh9 => c_106 ((nI_eq (a := i) (b := j) (by omega) (by omega)).mpr hh9)
                refine lv_aload_n hx hb dX9_solve_109 rfl (lv_at hl 2 rfl) ?_
                refine lv_iload_n hx hb dX9_solve_110 rfl (lv_at hl 1 rfl) ?_
                refine lv_iload_n hx hb dX9_solve_111 rfl (lv_at hl 0 rfl) ?_
                refine lv_lconst (v := 0) hx hb dX9_solve_112 (by decide) ?_
                refine pl_callv (va_runV (As := [.int (nI i), .int (nI j), .long 0]) (rest := []) ⟨hx, hb, hml, hown, hT⟩ (s_open l dC dI cy L kap pr S_43 H.size v i j 0 hTy hT_v (by omega) (by omega)) (cwV 3 hT (gV w784 w786 ws36 w11 w787) rfl rfl rfl (by decide +kernel) ⟨(Nat.le_of_ble_eq_true rfl), (Nat.le_of_ble_eq_true rfl)⟩) ⟨pcN.blind, pl_recv hK hW hT_v.1 hS_v rfl, pcN.pre hW.1 hK hW.2.1 hN (fun q h => absurd h List.not_mem_nil)⟩ rfl rfl hl.1 rfl (lv_room (Nat.le_of_ble_eq_true rfl)) dX9_solve_113 ⟨(Nat.le_of_ble_eq_true rfl), (Nat.le_of_ble_eq_true rfl)⟩) hW hA0 hA (fun S_44 H locs hrel hW => ?_)
                obtain ⟨hTy, hF1⟩ := hrel
                have hFr := hFr.tr hF1 (by decide)
                have hFl26 := hFl26.tr hF1 (by decide)
                have hFl96 := hFl96.tr hF1 (by decide)
                have hS_v := hF1.at hT_v (by decide) hS_v
                have hS_x_5 := hF1.at hT_x_5 (by decide) hS_x_5
                have hS_x_6 := hF1.at hT_x_6 (by decide) hS_x_6
                refine lv_iinc (v := nI (j + 1)) (lv' := [(2, .int (nI (j + 1))), (1, .int (nI i)), (0, .ref v)]) hx hb dX9_solve_116 hl (k := 0) rfl (nI_add (j) 1) (by decide) rfl (fun ls hl => ?_)
                refine lv_goto (tgt := 96) hx hb dX9_solve_119 (by decide) ?_
                exact ih96 (j + 1) _ _ _ ls (by omega) (by omega) hTy hFr hFl96 hW (lv_sub hl [0, 1, 2] rfl)
        exact loop ((9 - 0) + 1) 0 _ _ _ ls (Nat.lt_succ_self _) (by omega) hTy hFr Fr.rf hW (lv_sub hl [0, 1, 2] rfl)
  exact loop ((9 - 0) + 1) 0 _ _ _ ls (Nat.lt_succ_self _) (by omega) hTy hFr Fr.rf hW (lv_sub hl [0, 1] rfl)
