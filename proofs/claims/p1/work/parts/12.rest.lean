set_option maxHeartbeats 4000000 in
set_option maxRecDepth 100000 in
theorem c_append (l : Launch) (dC : Nat → ClassId) (dI : Nat → Nat → Nat) (a0 : Nat) (u : Int32) (tb : Nat) (cB : ClassId) (fb : Nat → Int32) (sz : Nat) (v : Int32) (tn : Nat) (hu : u = nI tn) (ht : tn + 4 ≤ 900) : Met l yX10_append (wT yX10_append cX10_append 3 none) ({ frames := 0, cells := 0, slots := 0, locals := 0 }) (pcW dC dI [.ref a0, .int v] sz [(a0, .inr (10, [.ref tb, .int u])), (tb, .inl (cB, 900, .inl fb))] [(cB, .byte)]) (va_Qv (fun _ : Unit => True) (fun _ t => ∃ fb2 : Nat → Int32, pB dC dI (va_A [(a0, .inr (10, [.ref tb, .int u])), (tb, .inl (cB, 900, .inl fb))] sz) [(a0, .inr (10, [.ref tb, .int (nI (tn + 1 + 1 + 1 + 1))])), (tb, .inl (cB, 900, .inl fb2))] [(cB, .byte)] t) (va_A [(a0, .inr (10, [.ref tb, .int u])), (tb, .inl (cB, 900, .inl fb))] sz)) 0 0 (va_A [(a0, .inr (10, [.ref tb, .int u])), (tb, .inl (cB, 900, .inl fb))] sz) := by
  refine Met.ofW (cc := cX10_append) (maxL := 3) (ret := none) (by decide) rfl ?_
  intro p e s m args below meth c s₁ B hml hv
  obtain ⟨rfl, hsz, hP, hK, hD0⟩ := hv
  have hx := B.exec
  have hb := B.bytes
  have hr := B.returns
  have hT : ∀ w ∈ TB, w.before [.ref a0, .int v].toArray s = true := fun w h => atoms_spec (ws := wT yX10_append cX10_append 3 none) B.pre w (List.mem_cons_of_mem _ h)
  have hown : s.vm.findClass RX10 = some m.cls := findClass_of_methodNamed B.named
  have hlocks := B.notSynchronized
  subst hsz
  have hD := hD0.self (sz := s.heap.size)
  generalize hAe : va_A [(a0, .inr (10, [.ref tb, .int u])), (tb, .inl (cB, 900, .inl fb))] s.heap.size = A at hD ⊢
  have hA : ∀ q : Nat, s.heap.size ≤ q → A q := fun q h => by rw [← hAe]; exact Or.inr h
  have hS : va_S A s.heap s.heap [] := va_S.rf
  have hP : va_P (dC, dI) vwCl [(a0, .inr (10, [.ref tb, .int u])), (tb, .inl (cB, 900, .inl fb))] s.heap := hP
  have hl := lv_entry ([.ref a0, .int v]) (n := 3) (Nat.le_of_ble_eq_true rfl)
  rw [lg_entry_eq]
  generalize (lg_sl ([.ref a0, .int v]) ++ List.replicate (3 - (lg_sl ([.ref a0, .int v])).length) Slot.unset).toArray = ls at hl ⊢
  have hl : lv_has ls 3 [(0, .ref a0), (1, .int v)] := hl
  obtain rfl : u = nI tn := hu
  refine lv_bipush (v := 24) hx hb dX10_append_0 (by decide) ?_
  refine lv_istore_n (lv' := [(2, .int 24), (0, .ref a0), (1, .int v)]) hx hb dX10_append_2 rfl hl (by decide) rfl (fun ls hl => ?_)
  refine lv_iload_n hx hb dX10_append_3 rfl (lv_at hl 0 rfl) ?_
  refine lv_if_lt (tgt := 46) hx hb dX10_append_4 (by decide) (fun h => absurd h (by decide)) (fun _ => ?_)
  refine lv_aload_n hx hb dX10_append_7 rfl (lv_at hl 1 rfl) ?_
  refine va_get (D := (dC, dI)) (ci := 10) (v := .int (nI tn)) (C := RX10) (T := TX10) (N := 2) hx hb hT iX10 hown hK hP 0 rfl rfl 1 (by decide) (hT _ w39) (fun _ h9 => h9) rfl dX10_append_8 ?_
  refine lv_sipush (v := 900) hx hb dX10_append_11 (by decide) ?_
  refine lv_icmp_ge (tgt := 40) hx hb dX10_append_14 (by decide) (fun h => absurd h (nI_ge (a := tn) (b := 900) (by omega) (by decide))) (fun _ => ?_)
  refine lv_aload_n hx hb dX10_append_17 rfl (lv_at hl 1 rfl) ?_
  refine va_get (D := (dC, dI)) (ci := 10) (v := .ref tb) (C := RX10) (T := TX10) (N := 2) hx hb hT iX10 hown hK hP 0 rfl rfl 0 (by decide) (hT _ w36) (fun _ h9 => h9) rfl dX10_append_18 ?_
  refine lv_aload_n hx hb dX10_append_21 rfl (lv_at hl 1 rfl) ?_
  refine va_get (D := (dC, dI)) (ci := 10) (v := .int (nI tn)) (C := RX10) (T := TX10) (N := 2) hx hb hT iX10 hown hK hP 0 rfl rfl 1 (by decide) (hT _ w39) (fun _ h9 => h9) rfl dX10_append_22 ?_
  refine lv_iload_n hx hb dX10_append_25 rfl (lv_at hl 2 rfl) ?_
  refine lv_iload_n hx hb dX10_append_26 rfl (lv_at hl 0 rfl) ?_
  refine lv_iushr hx hb dX10_append_27 rfl ?_
  refine lv_topi (fun z_1 ez_1 => ?_)
  refine lv_i2b hx hb dX10_append_28 rfl ?_
  refine lv_topi (fun z_2 ez_2 => ?_)
  refine va_bast hx hb hK hP hD hS 1 0 rfl rfl (vp_in_nI (by omega) (by decide)) dX10_append_29 (fun H locs hP hD hS => ?_)
  obtain ⟨f_3, hf_3⟩ : ∃ gg : Nat → Int32, gg = upd fb (nI tn).toNatClampNeg (vp_nar .byte z_2) := ⟨_, rfl⟩
  rw [← hf_3] at hP hD
  have hP : va_P (dC, dI) vwCl [(a0, .inr (10, [.ref tb, .int (nI tn)])), (tb, .inl (cB, 900, .inl f_3))] H := hP
  have hD : va_D A [(a0, .inr (10, [.ref tb, .int (nI tn)])), (tb, .inl (cB, 900, .inl f_3))] := hD
  refine lv_aload_n hx hb dX10_append_30 rfl (lv_at hl 1 rfl) ?_
  refine lv_dup hx hb dX10_append_31 rfl ?_
  refine va_get (D := (dC, dI)) (ci := 10) (v := .int (nI tn)) (C := RX10) (T := TX10) (N := 2) hx hb hT iX10 hown hK hP 0 rfl rfl 1 (by decide) (hT _ w39) (fun _ h9 => h9) rfl dX10_append_32 ?_
  refine lv_iconst (v := 1) hx hb dX10_append_35 (by decide) ?_
  refine lv_iadd hx hb dX10_append_36 ?_
  refine lv_topi (fun z_4 ez_4 => ?_)
  obtain rfl : z_4 = nI (tn + 1) := ez_4.trans (nI_1 _)
  refine va_put (D := (dC, dI)) (ci := 10) (v := .int (nI (tn + 1))) (ty := .int) (C := RX10) (T := TX10) (N := 2) hx hb hT iX10 tyX10 tyX10_ok nmX10 hown hK hP hD hS 0 rfl rfl 1 (by decide) (hT _ w39) (fun _ h9 => h9) rfl (by decide +kernel) rfl rfl (Nat.le_of_ble_eq_true rfl) dX10_append_37 (fun H locs hP hD hS => ?_)
  have hP : va_P (dC, dI) vwCl [(a0, .inr (10, [.ref tb, .int (nI (tn + 1))])), (tb, .inl (cB, 900, .inl f_3))] H := hP
  have hD : va_D A [(a0, .inr (10, [.ref tb, .int (nI (tn + 1))])), (tb, .inl (cB, 900, .inl f_3))] := hD
  refine lv_iinc (v := 16) (lv' := [(2, .int 16), (0, .ref a0), (1, .int v)]) hx hb dX10_append_40 hl (k := 0) rfl (by decide) (by decide) rfl (fun ls hl => ?_)
  refine lv_goto (tgt := 3) hx hb dX10_append_43 (by decide) ?_
  refine lv_iload_n hx hb dX10_append_3 rfl (lv_at hl 0 rfl) ?_
  refine lv_if_lt (tgt := 46) hx hb dX10_append_4 (by decide) (fun h => absurd h (by decide)) (fun _ => ?_)
  refine lv_aload_n hx hb dX10_append_7 rfl (lv_at hl 1 rfl) ?_
  refine va_get (D := (dC, dI)) (ci := 10) (v := .int (nI (tn + 1))) (C := RX10) (T := TX10) (N := 2) hx hb hT iX10 hown hK hP 0 rfl rfl 1 (by decide) (hT _ w39) (fun _ h9 => h9) rfl dX10_append_8 ?_
  refine lv_sipush (v := 900) hx hb dX10_append_11 (by decide) ?_
  refine lv_icmp_ge (tgt := 40) hx hb dX10_append_14 (by decide) (fun h => absurd h (nI_ge (a := tn + 1) (b := 900) (by omega) (by decide))) (fun _ => ?_)
  refine lv_aload_n hx hb dX10_append_17 rfl (lv_at hl 1 rfl) ?_
  refine va_get (D := (dC, dI)) (ci := 10) (v := .ref tb) (C := RX10) (T := TX10) (N := 2) hx hb hT iX10 hown hK hP 0 rfl rfl 0 (by decide) (hT _ w36) (fun _ h9 => h9) rfl dX10_append_18 ?_
  refine lv_aload_n hx hb dX10_append_21 rfl (lv_at hl 1 rfl) ?_
  refine va_get (D := (dC, dI)) (ci := 10) (v := .int (nI (tn + 1))) (C := RX10) (T := TX10) (N := 2) hx hb hT iX10 hown hK hP 0 rfl rfl 1 (by decide) (hT _ w39) (fun _ h9 => h9) rfl dX10_append_22 ?_
  refine lv_iload_n hx hb dX10_append_25 rfl (lv_at hl 2 rfl) ?_
  refine lv_iload_n hx hb dX10_append_26 rfl (lv_at hl 0 rfl) ?_
  refine lv_iushr hx hb dX10_append_27 rfl ?_
  refine lv_topi (fun z_5 ez_5 => ?_)
  refine lv_i2b hx hb dX10_append_28 rfl ?_
  refine lv_topi (fun z_6 ez_6 => ?_)
  refine va_bast hx hb hK hP hD hS 1 0 rfl rfl (vp_in_nI (by omega) (by decide)) dX10_append_29 (fun H locs hP hD hS => ?_)
  obtain ⟨f_7, hf_7⟩ : ∃ gg : Nat → Int32, gg = upd f_3 (nI (tn + 1)).toNatClampNeg (vp_nar .byte z_6) := ⟨_, rfl⟩
  rw [← hf_7] at hP hD
  have hP : va_P (dC, dI) vwCl [(a0, .inr (10, [.ref tb, .int (nI (tn + 1))])), (tb, .inl (cB, 900, .inl f_7))] H := hP
  have hD : va_D A [(a0, .inr (10, [.ref tb, .int (nI (tn + 1))])), (tb, .inl (cB, 900, .inl f_7))] := hD
  refine lv_aload_n hx hb dX10_append_30 rfl (lv_at hl 1 rfl) ?_
  refine lv_dup hx hb dX10_append_31 rfl ?_
  refine va_get (D := (dC, dI)) (ci := 10) (v := .int (nI (tn + 1))) (C := RX10) (T := TX10) (N := 2) hx hb hT iX10 hown hK hP 0 rfl rfl 1 (by decide) (hT _ w39) (fun _ h9 => h9) rfl dX10_append_32 ?_
  refine lv_iconst (v := 1) hx hb dX10_append_35 (by decide) ?_
  refine lv_iadd hx hb dX10_append_36 ?_
  refine lv_topi (fun z_8 ez_8 => ?_)
  obtain rfl : z_8 = nI (tn + 1 + 1) := ez_8.trans (nI_1 _)
  refine va_put (D := (dC, dI)) (ci := 10) (v := .int (nI (tn + 1 + 1))) (ty := .int) (C := RX10) (T := TX10) (N := 2) hx hb hT iX10 tyX10 tyX10_ok nmX10 hown hK hP hD hS 0 rfl rfl 1 (by decide) (hT _ w39) (fun _ h9 => h9) rfl (by decide +kernel) rfl rfl (Nat.le_of_ble_eq_true rfl) dX10_append_37 (fun H locs hP hD hS => ?_)
  have hP : va_P (dC, dI) vwCl [(a0, .inr (10, [.ref tb, .int (nI (tn + 1 + 1))])), (tb, .inl (cB, 900, .inl f_7))] H := hP
  have hD : va_D A [(a0, .inr (10, [.ref tb, .int (nI (tn + 1 + 1))])), (tb, .inl (cB, 900, .inl f_7))] := hD
  refine lv_iinc (v := 8) (lv' := [(2, .int 8), (0, .ref a0), (1, .int v)]) hx hb dX10_append_40 hl (k := 0) rfl (by decide) (by decide) rfl (fun ls hl => ?_)
  refine lv_goto (tgt := 3) hx hb dX10_append_43 (by decide) ?_
  refine lv_iload_n hx hb dX10_append_3 rfl (lv_at hl 0 rfl) ?_
  refine lv_if_lt (tgt := 46) hx hb dX10_append_4 (by decide) (fun h => absurd h (by decide)) (fun _ => ?_)
  refine lv_aload_n hx hb dX10_append_7 rfl (lv_at hl 1 rfl) ?_
  refine va_get (D := (dC, dI)) (ci := 10) (v := .int (nI (tn + 1 + 1))) (C := RX10) (T := TX10) (N := 2) hx hb hT iX10 hown hK hP 0 rfl rfl 1 (by decide) (hT _ w39) (fun _ h9 => h9) rfl dX10_append_8 ?_
  refine lv_sipush (v := 900) hx hb dX10_append_11 (by decide) ?_
  refine lv_icmp_ge (tgt := 40) hx hb dX10_append_14 (by decide) (fun h => absurd h (nI_ge (a := tn + 1 + 1) (b := 900) (by omega) (by decide))) (fun _ => ?_)
  refine lv_aload_n hx hb dX10_append_17 rfl (lv_at hl 1 rfl) ?_
  refine va_get (D := (dC, dI)) (ci := 10) (v := .ref tb) (C := RX10) (T := TX10) (N := 2) hx hb hT iX10 hown hK hP 0 rfl rfl 0 (by decide) (hT _ w36) (fun _ h9 => h9) rfl dX10_append_18 ?_
  refine lv_aload_n hx hb dX10_append_21 rfl (lv_at hl 1 rfl) ?_
  refine va_get (D := (dC, dI)) (ci := 10) (v := .int (nI (tn + 1 + 1))) (C := RX10) (T := TX10) (N := 2) hx hb hT iX10 hown hK hP 0 rfl rfl 1 (by decide) (hT _ w39) (fun _ h9 => h9) rfl dX10_append_22 ?_
  refine lv_iload_n hx hb dX10_append_25 rfl (lv_at hl 2 rfl) ?_
  refine lv_iload_n hx hb dX10_append_26 rfl (lv_at hl 0 rfl) ?_
  refine lv_iushr hx hb dX10_append_27 rfl ?_
  refine lv_topi (fun z_9 ez_9 => ?_)
  refine lv_i2b hx hb dX10_append_28 rfl ?_
  refine lv_topi (fun z_10 ez_10 => ?_)
  refine va_bast hx hb hK hP hD hS 1 0 rfl rfl (vp_in_nI (by omega) (by decide)) dX10_append_29 (fun H locs hP hD hS => ?_)
  obtain ⟨f_11, hf_11⟩ : ∃ gg : Nat → Int32, gg = upd f_7 (nI (tn + 1 + 1)).toNatClampNeg (vp_nar .byte z_10) := ⟨_, rfl⟩
  rw [← hf_11] at hP hD
  have hP : va_P (dC, dI) vwCl [(a0, .inr (10, [.ref tb, .int (nI (tn + 1 + 1))])), (tb, .inl (cB, 900, .inl f_11))] H := hP
  have hD : va_D A [(a0, .inr (10, [.ref tb, .int (nI (tn + 1 + 1))])), (tb, .inl (cB, 900, .inl f_11))] := hD
  refine lv_aload_n hx hb dX10_append_30 rfl (lv_at hl 1 rfl) ?_
  refine lv_dup hx hb dX10_append_31 rfl ?_
  refine va_get (D := (dC, dI)) (ci := 10) (v := .int (nI (tn + 1 + 1))) (C := RX10) (T := TX10) (N := 2) hx hb hT iX10 hown hK hP 0 rfl rfl 1 (by decide) (hT _ w39) (fun _ h9 => h9) rfl dX10_append_32 ?_
  refine lv_iconst (v := 1) hx hb dX10_append_35 (by decide) ?_
  refine lv_iadd hx hb dX10_append_36 ?_
  refine lv_topi (fun z_12 ez_12 => ?_)
  obtain rfl : z_12 = nI (tn + 1 + 1 + 1) := ez_12.trans (nI_1 _)
  refine va_put (D := (dC, dI)) (ci := 10) (v := .int (nI (tn + 1 + 1 + 1))) (ty := .int) (C := RX10) (T := TX10) (N := 2) hx hb hT iX10 tyX10 tyX10_ok nmX10 hown hK hP hD hS 0 rfl rfl 1 (by decide) (hT _ w39) (fun _ h9 => h9) rfl (by decide +kernel) rfl rfl (Nat.le_of_ble_eq_true rfl) dX10_append_37 (fun H locs hP hD hS => ?_)
  have hP : va_P (dC, dI) vwCl [(a0, .inr (10, [.ref tb, .int (nI (tn + 1 + 1 + 1))])), (tb, .inl (cB, 900, .inl f_11))] H := hP
  have hD : va_D A [(a0, .inr (10, [.ref tb, .int (nI (tn + 1 + 1 + 1))])), (tb, .inl (cB, 900, .inl f_11))] := hD
  refine lv_iinc (v := 0) (lv' := [(2, .int 0), (0, .ref a0), (1, .int v)]) hx hb dX10_append_40 hl (k := 0) rfl (by decide) (by decide) rfl (fun ls hl => ?_)
  refine lv_goto (tgt := 3) hx hb dX10_append_43 (by decide) ?_
  refine lv_iload_n hx hb dX10_append_3 rfl (lv_at hl 0 rfl) ?_
  refine lv_if_lt (tgt := 46) hx hb dX10_append_4 (by decide) (fun h => absurd h (by decide)) (fun _ => ?_)
  refine lv_aload_n hx hb dX10_append_7 rfl (lv_at hl 1 rfl) ?_
  refine va_get (D := (dC, dI)) (ci := 10) (v := .int (nI (tn + 1 + 1 + 1))) (C := RX10) (T := TX10) (N := 2) hx hb hT iX10 hown hK hP 0 rfl rfl 1 (by decide) (hT _ w39) (fun _ h9 => h9) rfl dX10_append_8 ?_
  refine lv_sipush (v := 900) hx hb dX10_append_11 (by decide) ?_
  refine lv_icmp_ge (tgt := 40) hx hb dX10_append_14 (by decide) (fun h => absurd h (nI_ge (a := tn + 1 + 1 + 1) (b := 900) (by omega) (by decide))) (fun _ => ?_)
  refine lv_aload_n hx hb dX10_append_17 rfl (lv_at hl 1 rfl) ?_
  refine va_get (D := (dC, dI)) (ci := 10) (v := .ref tb) (C := RX10) (T := TX10) (N := 2) hx hb hT iX10 hown hK hP 0 rfl rfl 0 (by decide) (hT _ w36) (fun _ h9 => h9) rfl dX10_append_18 ?_
  refine lv_aload_n hx hb dX10_append_21 rfl (lv_at hl 1 rfl) ?_
  refine va_get (D := (dC, dI)) (ci := 10) (v := .int (nI (tn + 1 + 1 + 1))) (C := RX10) (T := TX10) (N := 2) hx hb hT iX10 hown hK hP 0 rfl rfl 1 (by decide) (hT _ w39) (fun _ h9 => h9) rfl dX10_append_22 ?_
  refine lv_iload_n hx hb dX10_append_25 rfl (lv_at hl 2 rfl) ?_
  refine lv_iload_n hx hb dX10_append_26 rfl (lv_at hl 0 rfl) ?_
  refine lv_iushr hx hb dX10_append_27 rfl ?_
  refine lv_topi (fun z_13 ez_13 => ?_)
  refine lv_i2b hx hb dX10_append_28 rfl ?_
  refine lv_topi (fun z_14 ez_14 => ?_)
  refine va_bast hx hb hK hP hD hS 1 0 rfl rfl (vp_in_nI (by omega) (by decide)) dX10_append_29 (fun H locs hP hD hS => ?_)
  obtain ⟨f_15, hf_15⟩ : ∃ gg : Nat → Int32, gg = upd f_11 (nI (tn + 1 + 1 + 1)).toNatClampNeg (vp_nar .byte z_14) := ⟨_, rfl⟩
  rw [← hf_15] at hP hD
  have hP : va_P (dC, dI) vwCl [(a0, .inr (10, [.ref tb, .int (nI (tn + 1 + 1 + 1))])), (tb, .inl (cB, 900, .inl f_15))] H := hP
  have hD : va_D A [(a0, .inr (10, [.ref tb, .int (nI (tn + 1 + 1 + 1))])), (tb, .inl (cB, 900, .inl f_15))] := hD
  refine lv_aload_n hx hb dX10_append_30 rfl (lv_at hl 1 rfl) ?_
  refine lv_dup hx hb dX10_append_31 rfl ?_
  refine va_get (D := (dC, dI)) (ci := 10) (v := .int (nI (tn + 1 + 1 + 1))) (C := RX10) (T := TX10) (N := 2) hx hb hT iX10 hown hK hP 0 rfl rfl 1 (by decide) (hT _ w39) (fun _ h9 => h9) rfl dX10_append_32 ?_
  refine lv_iconst (v := 1) hx hb dX10_append_35 (by decide) ?_
  refine lv_iadd hx hb dX10_append_36 ?_
  refine lv_topi (fun z_16 ez_16 => ?_)
  obtain rfl : z_16 = nI (tn + 1 + 1 + 1 + 1) := ez_16.trans (nI_1 _)
  refine va_put (D := (dC, dI)) (ci := 10) (v := .int (nI (tn + 1 + 1 + 1 + 1))) (ty := .int) (C := RX10) (T := TX10) (N := 2) hx hb hT iX10 tyX10 tyX10_ok nmX10 hown hK hP hD hS 0 rfl rfl 1 (by decide) (hT _ w39) (fun _ h9 => h9) rfl (by decide +kernel) rfl rfl (Nat.le_of_ble_eq_true rfl) dX10_append_37 (fun H locs hP hD hS => ?_)
  have hP : va_P (dC, dI) vwCl [(a0, .inr (10, [.ref tb, .int (nI (tn + 1 + 1 + 1 + 1))])), (tb, .inl (cB, 900, .inl f_15))] H := hP
  have hD : va_D A [(a0, .inr (10, [.ref tb, .int (nI (tn + 1 + 1 + 1 + 1))])), (tb, .inl (cB, 900, .inl f_15))] := hD
  refine lv_iinc (v := (-8)) (lv' := [(2, .int (-8)), (0, .ref a0), (1, .int v)]) hx hb dX10_append_40 hl (k := 0) rfl (by decide) (by decide) rfl (fun ls hl => ?_)
  refine lv_goto (tgt := 3) hx hb dX10_append_43 (by decide) ?_
  refine lv_iload_n hx hb dX10_append_3 rfl (lv_at hl 0 rfl) ?_
  refine lv_if_lt (tgt := 46) hx hb dX10_append_4 (by decide) (fun _ => ?_) (fun h => absurd (by decide) h)
  refine W.widen (k := 0) (n := 0) (Nat.le_of_ble_eq_true rfl) (Nat.le_of_ble_eq_true rfl) ?_
  have hP9 := hP.sub (ws' := [(a0, .inr (10, [.ref tb, .int (nI (tn + 1 + 1 + 1 + 1))])), (tb, .inl (cB, 900, .inl f_15))]) [0, 1] rfl
  have hD9 := hD.sub (ws' := [(a0, .inr (10, [.ref tb, .int (nI (tn + 1 + 1 + 1 + 1))])), (tb, .inl (cB, 900, .inl f_15))]) [0, 1] (by decide) rfl
  have hK9 := hK.sub (tys' := [(cB, .byte)]) [0] rfl
  exact W.vret hx hb hr (fun t ht hW => ⟨⟨(), rfl, trivial, f_15, by rw [ht]; exact hP9, va_K.moved hW.alike hK9, hD9⟩, hS.F ht⟩) hS.2.2 dX10_append_46

set_option maxHeartbeats 4000000 in
set_option maxRecDepth 100000 in
theorem c_feed (l : Launch) (dC : Nat → ClassId) (dI : Nat → Nat → Nat) (h0 : Nat) (a0 : Nat) (a1 : Nat) (a2 : Nat) (a3 : Nat) (a4 : Nat) (a5 : Nat) (a6 : Nat) (a7 : Nat) (a8 : Nat) (a9 : Nat) (n0 : Nat) (b0 : Nat) (tb : Nat) (cB : ClassId) (fb : Nat → Int32) (sz : Nat) (k0 : Int32) (k1 : Int32) (k2 : Int32) (k3 : Int32) (k4 : Int32) : Met l yX11_feed (wT yX11_feed cX11_feed 6 (some .int)) ({ frames := 1, cells := 0, slots := 0, locals := 22 }) (pcW dC dI [.ref h0, .int k0, .int k1, .int k2, .int k3, .int k4] sz [(h0, .inr (11, [.ref a0, .ref a1, .ref a2, .ref a3, .ref a4, .ref a5, .ref a6, .ref a7, .ref a8, .ref a9, .ref n0, .ref b0, .int (-1)])), (a0, .inr (10, [.ref tb, .int 0])), (tb, .inl (cB, 900, .inl fb))] [(cB, .byte)]) (va_Qi (fun (r : Int32) (_ : Unit) => r = 20) (fun _ _ => True) (va_A [(h0, .inr (11, [.ref a0, .ref a1, .ref a2, .ref a3, .ref a4, .ref a5, .ref a6, .ref a7, .ref a8, .ref a9, .ref n0, .ref b0, .int (-1)])), (a0, .inr (10, [.ref tb, .int 0])), (tb, .inl (cB, 900, .inl fb))] sz)) 0 0 (va_A [(h0, .inr (11, [.ref a0, .ref a1, .ref a2, .ref a3, .ref a4, .ref a5, .ref a6, .ref a7, .ref a8, .ref a9, .ref n0, .ref b0, .int (-1)])), (a0, .inr (10, [.ref tb, .int 0])), (tb, .inl (cB, 900, .inl fb))] sz) := by
  refine Met.ofW (cc := cX11_feed) (maxL := 6) (ret := (some .int)) (by decide) rfl ?_
  intro p e s m args below meth c s₁ B hml hv
  obtain ⟨rfl, hsz, hP, hK, hD0⟩ := hv
  have hx := B.exec
  have hb := B.bytes
  have hr := B.returns
  have hT : ∀ w ∈ TB, w.before [.ref h0, .int k0, .int k1, .int k2, .int k3, .int k4].toArray s = true := fun w h => atoms_spec (ws := wT yX11_feed cX11_feed 6 (some .int)) B.pre w (List.mem_cons_of_mem _ h)
  have hown : s.vm.findClass RX11 = some m.cls := findClass_of_methodNamed B.named
  have hlocks := B.notSynchronized
  subst hsz
  have hD := hD0.self (sz := s.heap.size)
  generalize hAe : va_A [(h0, .inr (11, [.ref a0, .ref a1, .ref a2, .ref a3, .ref a4, .ref a5, .ref a6, .ref a7, .ref a8, .ref a9, .ref n0, .ref b0, .int (-1)])), (a0, .inr (10, [.ref tb, .int 0])), (tb, .inl (cB, 900, .inl fb))] s.heap.size = A at hD ⊢
  have hA : ∀ q : Nat, s.heap.size ≤ q → A q := fun q h => by rw [← hAe]; exact Or.inr h
  have hS : va_S A s.heap s.heap [] := va_S.rf
  have hP : va_P (dC, dI) vwCl [(h0, .inr (11, [.ref a0, .ref a1, .ref a2, .ref a3, .ref a4, .ref a5, .ref a6, .ref a7, .ref a8, .ref a9, .ref n0, .ref b0, .int (-1)])), (a0, .inr (10, [.ref tb, .int 0])), (tb, .inl (cB, 900, .inl fb))] s.heap := hP
  have hl := lv_entry ([.ref h0, .int k0, .int k1, .int k2, .int k3, .int k4]) (n := 6) (Nat.le_of_ble_eq_true rfl)
  rw [lg_entry_eq]
  generalize (lg_sl ([.ref h0, .int k0, .int k1, .int k2, .int k3, .int k4]) ++ List.replicate (6 - (lg_sl ([.ref h0, .int k0, .int k1, .int k2, .int k3, .int k4])).length) Slot.unset).toArray = ls at hl ⊢
  have hl : lv_has ls 6 [(0, .ref h0), (1, .int k0), (2, .int k1), (3, .int k2), (4, .int k3), (5, .int k4)] := hl
  refine lv_aload_n hx hb dX11_feed_0 rfl (lv_at hl 0 rfl) ?_
  refine va_get (D := (dC, dI)) (ci := 11) (v := .ref a0) (C := RX11) (T := TX11) (N := 13) hx hb hT iX11 hown hK hP 0 rfl rfl 0 (by decide) (hT _ w353) (fun _ h9 => h9) rfl dX11_feed_1 ?_
  refine va_get (D := (dC, dI)) (ci := 10) (v := .int 0) (C := RX10) (T := TX10) (N := 2) hx hb hT iX10 hown hK hP 1 rfl rfl 1 (by decide) (hT _ w38) (fun _ h9 => h9) rfl dX11_feed_4 ?_
  refine lv_bipush (v := 20) hx hb dX11_feed_7 (by decide) ?_
  refine lv_iadd hx hb dX11_feed_9 ?_
  refine lv_topi (fun z_1 ez_1 => ?_)
  obtain rfl : z_1 = 20 := ez_1.trans (by decide)
  refine lv_sipush (v := 900) hx hb dX11_feed_10 (by decide) ?_
  refine lv_icmp_le (tgt := 19) hx hb dX11_feed_13 (by decide) (fun _ => ?_) (fun h => absurd (by decide) h)
  refine lv_aload_n hx hb dX11_feed_19 rfl (lv_at hl 0 rfl) ?_
  refine va_get (D := (dC, dI)) (ci := 11) (v := .ref a0) (C := RX11) (T := TX11) (N := 13) hx hb hT iX11 hown hK hP 0 rfl rfl 0 (by decide) (hT _ w353) (fun _ h9 => h9) rfl dX11_feed_20 ?_
  refine lv_iload_n hx hb dX11_feed_23 rfl (lv_at hl 1 rfl) ?_
  have hPc := hP.sub (ws' := [(a0, .inr (10, [.ref tb, .int 0])), (tb, .inl (cB, 900, .inl fb))]) [1, 2] rfl
  have hDc := hD.sub (ws' := [(a0, .inr (10, [.ref tb, .int 0])), (tb, .inl (cB, 900, .inl fb))]) [1, 2] (by decide) rfl
  have hKc := hK.sub (tys' := [(cB, .byte)]) [0] rfl
  have hFc := va_free (wc := [(a0, .inr (10, [.ref tb, .int 0])), (tb, .inl (cB, 900, .inl fb))]) hD hS hA [1, 2] rfl
  refine va_callv (va_runV (As := [.int k0]) (rest := []) ⟨hx, hb, hml, hown, hT⟩ (c_append l dC dI a0 0 tb cB fb s.heap.size k0 0 rfl (by decide)) (cwV 1 hT (gV w397 w398 w399 w2 w400) rfl rfl rfl (by decide +kernel) ⟨(Nat.le_of_ble_eq_true rfl), (Nat.le_of_ble_eq_true rfl)⟩) ⟨pcW.blind, va_recv hKc hPc (ci := 10) (q0 := 0) rfl rfl, pcW.pre hPc hKc hDc⟩ rfl rfl hl.1 rfl (lv_room (Nat.le_of_ble_eq_true rfl)) dX11_feed_24 ⟨(Nat.le_of_ble_eq_true rfl), (Nat.le_of_ble_eq_true rfl)⟩) hS (fun q _ h => hFc q h) hFc (fun u t H1 locs ht hvm hw hB hz1 hk1 hS => ?_)
  obtain ⟨fb2_2, hP1, hK1, hD1⟩ := hB
  rw [ht] at hP1
  have hK1 := va_K.moved hvm.symm hK1
  obtain ⟨hP, hD⟩ := va_join (wr := [(h0, .inr (11, [.ref a0, .ref a1, .ref a2, .ref a3, .ref a4, .ref a5, .ref a6, .ref a7, .ref a8, .ref a9, .ref n0, .ref b0, .int (-1)]))]) (w1 := [(a0, .inr (10, [.ref tb, .int (nI (0 + 1 + 1 + 1 + 1))])), (tb, .inl (cB, 900, .inl fb2_2))]) hP hD [1, 2] [0] rfl rfl (by decide) (by decide) hk1 hFc hP1 hD1
  have hK := hK.app hK1
  generalize H1 = H at hP hS ⊢
  have hP : va_P (dC, dI) vwCl [(h0, .inr (11, [.ref a0, .ref a1, .ref a2, .ref a3, .ref a4, .ref a5, .ref a6, .ref a7, .ref a8, .ref a9, .ref n0, .ref b0, .int (-1)])), (a0, .inr (10, [.ref tb, .int (nI (0 + 1 + 1 + 1 + 1))])), (tb, .inl (cB, 900, .inl fb2_2))] H := hP
  have hD : va_D A [(h0, .inr (11, [.ref a0, .ref a1, .ref a2, .ref a3, .ref a4, .ref a5, .ref a6, .ref a7, .ref a8, .ref a9, .ref n0, .ref b0, .int (-1)])), (a0, .inr (10, [.ref tb, .int (nI (0 + 1 + 1 + 1 + 1))])), (tb, .inl (cB, 900, .inl fb2_2))] := hD
  have hK : va_K (dC, dI) vwCl [(cB, .byte), (cB, .byte)] s := hK
  refine W.widen (k := 0) (n := 0) (Nat.le_of_ble_eq_true rfl) (Nat.le_of_ble_eq_true rfl) ?_
  refine lv_aload_n hx hb dX11_feed_27 rfl (lv_at hl 0 rfl) ?_
  refine va_get (D := (dC, dI)) (ci := 11) (v := .ref a0) (C := RX11) (T := TX11) (N := 13) hx hb hT iX11 hown hK hP 0 rfl rfl 0 (by decide) (hT _ w353) (fun _ h9 => h9) rfl dX11_feed_28 ?_
  refine lv_iload_n hx hb dX11_feed_31 rfl (lv_at hl 2 rfl) ?_
  have hPc := hP.sub (ws' := [(a0, .inr (10, [.ref tb, .int (nI (0 + 1 + 1 + 1 + 1))])), (tb, .inl (cB, 900, .inl fb2_2))]) [1, 2] rfl
  have hDc := hD.sub (ws' := [(a0, .inr (10, [.ref tb, .int (nI (0 + 1 + 1 + 1 + 1))])), (tb, .inl (cB, 900, .inl fb2_2))]) [1, 2] (by decide) rfl
  have hKc := hK.sub (tys' := [(cB, .byte)]) [0] rfl
  have hFc := va_free (wc := [(a0, .inr (10, [.ref tb, .int (nI (0 + 1 + 1 + 1 + 1))])), (tb, .inl (cB, 900, .inl fb2_2))]) hD hS hA [1, 2] rfl
  refine va_callv (va_runV (As := [.int k1]) (rest := []) ⟨hx, hb, hml, hown, hT⟩ (c_append l dC dI a0 (nI (0 + 1 + 1 + 1 + 1)) tb cB fb2_2 H.size k1 4 rfl (by decide)) (cwV 1 hT (gV w397 w398 w399 w2 w400) rfl rfl rfl (by decide +kernel) ⟨(Nat.le_of_ble_eq_true rfl), (Nat.le_of_ble_eq_true rfl)⟩) ⟨pcW.blind, va_recv hKc hPc (ci := 10) (q0 := 0) rfl rfl, pcW.pre hPc hKc hDc⟩ rfl rfl hl.1 rfl (lv_room (Nat.le_of_ble_eq_true rfl)) dX11_feed_32 ⟨(Nat.le_of_ble_eq_true rfl), (Nat.le_of_ble_eq_true rfl)⟩) hS (fun q _ h => hFc q h) hFc (fun u t H1 locs ht hvm hw hB hz1 hk1 hS => ?_)
  obtain ⟨fb2_3, hP1, hK1, hD1⟩ := hB
  rw [ht] at hP1
  have hK1 := va_K.moved hvm.symm hK1
  obtain ⟨hP, hD⟩ := va_join (wr := [(h0, .inr (11, [.ref a0, .ref a1, .ref a2, .ref a3, .ref a4, .ref a5, .ref a6, .ref a7, .ref a8, .ref a9, .ref n0, .ref b0, .int (-1)]))]) (w1 := [(a0, .inr (10, [.ref tb, .int (nI (4 + 1 + 1 + 1 + 1))])), (tb, .inl (cB, 900, .inl fb2_3))]) hP hD [1, 2] [0] rfl rfl (by decide) (by decide) hk1 hFc hP1 hD1
  have hK := hK.app hK1
  generalize H1 = H at hP hS ⊢
  have hP : va_P (dC, dI) vwCl [(h0, .inr (11, [.ref a0, .ref a1, .ref a2, .ref a3, .ref a4, .ref a5, .ref a6, .ref a7, .ref a8, .ref a9, .ref n0, .ref b0, .int (-1)])), (a0, .inr (10, [.ref tb, .int (nI (4 + 1 + 1 + 1 + 1))])), (tb, .inl (cB, 900, .inl fb2_3))] H := hP
  have hD : va_D A [(h0, .inr (11, [.ref a0, .ref a1, .ref a2, .ref a3, .ref a4, .ref a5, .ref a6, .ref a7, .ref a8, .ref a9, .ref n0, .ref b0, .int (-1)])), (a0, .inr (10, [.ref tb, .int (nI (4 + 1 + 1 + 1 + 1))])), (tb, .inl (cB, 900, .inl fb2_3))] := hD
  have hK : va_K (dC, dI) vwCl [(cB, .byte), (cB, .byte), (cB, .byte)] s := hK
  refine W.widen (k := 0) (n := 0) (Nat.le_of_ble_eq_true rfl) (Nat.le_of_ble_eq_true rfl) ?_
  refine lv_aload_n hx hb dX11_feed_35 rfl (lv_at hl 0 rfl) ?_
  refine va_get (D := (dC, dI)) (ci := 11) (v := .ref a0) (C := RX11) (T := TX11) (N := 13) hx hb hT iX11 hown hK hP 0 rfl rfl 0 (by decide) (hT _ w353) (fun _ h9 => h9) rfl dX11_feed_36 ?_
  refine lv_iload_n hx hb dX11_feed_39 rfl (lv_at hl 3 rfl) ?_
  have hPc := hP.sub (ws' := [(a0, .inr (10, [.ref tb, .int (nI (4 + 1 + 1 + 1 + 1))])), (tb, .inl (cB, 900, .inl fb2_3))]) [1, 2] rfl
  have hDc := hD.sub (ws' := [(a0, .inr (10, [.ref tb, .int (nI (4 + 1 + 1 + 1 + 1))])), (tb, .inl (cB, 900, .inl fb2_3))]) [1, 2] (by decide) rfl
  have hKc := hK.sub (tys' := [(cB, .byte)]) [0] rfl
  have hFc := va_free (wc := [(a0, .inr (10, [.ref tb, .int (nI (4 + 1 + 1 + 1 + 1))])), (tb, .inl (cB, 900, .inl fb2_3))]) hD hS hA [1, 2] rfl
  refine va_callv (va_runV (As := [.int k2]) (rest := []) ⟨hx, hb, hml, hown, hT⟩ (c_append l dC dI a0 (nI (4 + 1 + 1 + 1 + 1)) tb cB fb2_3 H.size k2 8 rfl (by decide)) (cwV 1 hT (gV w397 w398 w399 w2 w400) rfl rfl rfl (by decide +kernel) ⟨(Nat.le_of_ble_eq_true rfl), (Nat.le_of_ble_eq_true rfl)⟩) ⟨pcW.blind, va_recv hKc hPc (ci := 10) (q0 := 0) rfl rfl, pcW.pre hPc hKc hDc⟩ rfl rfl hl.1 rfl (lv_room (Nat.le_of_ble_eq_true rfl)) dX11_feed_40 ⟨(Nat.le_of_ble_eq_true rfl), (Nat.le_of_ble_eq_true rfl)⟩) hS (fun q _ h => hFc q h) hFc (fun u t H1 locs ht hvm hw hB hz1 hk1 hS => ?_)
  obtain ⟨fb2_4, hP1, hK1, hD1⟩ := hB
  rw [ht] at hP1
  have hK1 := va_K.moved hvm.symm hK1
  obtain ⟨hP, hD⟩ := va_join (wr := [(h0, .inr (11, [.ref a0, .ref a1, .ref a2, .ref a3, .ref a4, .ref a5, .ref a6, .ref a7, .ref a8, .ref a9, .ref n0, .ref b0, .int (-1)]))]) (w1 := [(a0, .inr (10, [.ref tb, .int (nI (8 + 1 + 1 + 1 + 1))])), (tb, .inl (cB, 900, .inl fb2_4))]) hP hD [1, 2] [0] rfl rfl (by decide) (by decide) hk1 hFc hP1 hD1
  have hK := hK.app hK1
  generalize H1 = H at hP hS ⊢
  have hP : va_P (dC, dI) vwCl [(h0, .inr (11, [.ref a0, .ref a1, .ref a2, .ref a3, .ref a4, .ref a5, .ref a6, .ref a7, .ref a8, .ref a9, .ref n0, .ref b0, .int (-1)])), (a0, .inr (10, [.ref tb, .int (nI (8 + 1 + 1 + 1 + 1))])), (tb, .inl (cB, 900, .inl fb2_4))] H := hP
  have hD : va_D A [(h0, .inr (11, [.ref a0, .ref a1, .ref a2, .ref a3, .ref a4, .ref a5, .ref a6, .ref a7, .ref a8, .ref a9, .ref n0, .ref b0, .int (-1)])), (a0, .inr (10, [.ref tb, .int (nI (8 + 1 + 1 + 1 + 1))])), (tb, .inl (cB, 900, .inl fb2_4))] := hD
  have hK : va_K (dC, dI) vwCl [(cB, .byte), (cB, .byte), (cB, .byte), (cB, .byte)] s := hK
  refine W.widen (k := 0) (n := 0) (Nat.le_of_ble_eq_true rfl) (Nat.le_of_ble_eq_true rfl) ?_
  refine lv_aload_n hx hb dX11_feed_43 rfl (lv_at hl 0 rfl) ?_
  refine va_get (D := (dC, dI)) (ci := 11) (v := .ref a0) (C := RX11) (T := TX11) (N := 13) hx hb hT iX11 hown hK hP 0 rfl rfl 0 (by decide) (hT _ w353) (fun _ h9 => h9) rfl dX11_feed_44 ?_
  refine lv_iload hx hb dX11_feed_47 (lv_at hl 4 rfl) ?_
  have hPc := hP.sub (ws' := [(a0, .inr (10, [.ref tb, .int (nI (8 + 1 + 1 + 1 + 1))])), (tb, .inl (cB, 900, .inl fb2_4))]) [1, 2] rfl
  have hDc := hD.sub (ws' := [(a0, .inr (10, [.ref tb, .int (nI (8 + 1 + 1 + 1 + 1))])), (tb, .inl (cB, 900, .inl fb2_4))]) [1, 2] (by decide) rfl
  have hKc := hK.sub (tys' := [(cB, .byte)]) [0] rfl
  have hFc := va_free (wc := [(a0, .inr (10, [.ref tb, .int (nI (8 + 1 + 1 + 1 + 1))])), (tb, .inl (cB, 900, .inl fb2_4))]) hD hS hA [1, 2] rfl
  refine va_callv (va_runV (As := [.int k3]) (rest := []) ⟨hx, hb, hml, hown, hT⟩ (c_append l dC dI a0 (nI (8 + 1 + 1 + 1 + 1)) tb cB fb2_4 H.size k3 12 rfl (by decide)) (cwV 1 hT (gV w397 w398 w399 w2 w400) rfl rfl rfl (by decide +kernel) ⟨(Nat.le_of_ble_eq_true rfl), (Nat.le_of_ble_eq_true rfl)⟩) ⟨pcW.blind, va_recv hKc hPc (ci := 10) (q0 := 0) rfl rfl, pcW.pre hPc hKc hDc⟩ rfl rfl hl.1 rfl (lv_room (Nat.le_of_ble_eq_true rfl)) dX11_feed_49 ⟨(Nat.le_of_ble_eq_true rfl), (Nat.le_of_ble_eq_true rfl)⟩) hS (fun q _ h => hFc q h) hFc (fun u t H1 locs ht hvm hw hB hz1 hk1 hS => ?_)
  obtain ⟨fb2_5, hP1, hK1, hD1⟩ := hB
  rw [ht] at hP1
  have hK1 := va_K.moved hvm.symm hK1
  obtain ⟨hP, hD⟩ := va_join (wr := [(h0, .inr (11, [.ref a0, .ref a1, .ref a2, .ref a3, .ref a4, .ref a5, .ref a6, .ref a7, .ref a8, .ref a9, .ref n0, .ref b0, .int (-1)]))]) (w1 := [(a0, .inr (10, [.ref tb, .int (nI (12 + 1 + 1 + 1 + 1))])), (tb, .inl (cB, 900, .inl fb2_5))]) hP hD [1, 2] [0] rfl rfl (by decide) (by decide) hk1 hFc hP1 hD1
  have hK := hK.app hK1
  generalize H1 = H at hP hS ⊢
  have hP : va_P (dC, dI) vwCl [(h0, .inr (11, [.ref a0, .ref a1, .ref a2, .ref a3, .ref a4, .ref a5, .ref a6, .ref a7, .ref a8, .ref a9, .ref n0, .ref b0, .int (-1)])), (a0, .inr (10, [.ref tb, .int (nI (12 + 1 + 1 + 1 + 1))])), (tb, .inl (cB, 900, .inl fb2_5))] H := hP
  have hD : va_D A [(h0, .inr (11, [.ref a0, .ref a1, .ref a2, .ref a3, .ref a4, .ref a5, .ref a6, .ref a7, .ref a8, .ref a9, .ref n0, .ref b0, .int (-1)])), (a0, .inr (10, [.ref tb, .int (nI (12 + 1 + 1 + 1 + 1))])), (tb, .inl (cB, 900, .inl fb2_5))] := hD
  have hK : va_K (dC, dI) vwCl [(cB, .byte), (cB, .byte), (cB, .byte), (cB, .byte), (cB, .byte)] s := hK
  refine W.widen (k := 0) (n := 0) (Nat.le_of_ble_eq_true rfl) (Nat.le_of_ble_eq_true rfl) ?_
  refine lv_aload_n hx hb dX11_feed_52 rfl (lv_at hl 0 rfl) ?_
  refine va_get (D := (dC, dI)) (ci := 11) (v := .ref a0) (C := RX11) (T := TX11) (N := 13) hx hb hT iX11 hown hK hP 0 rfl rfl 0 (by decide) (hT _ w353) (fun _ h9 => h9) rfl dX11_feed_53 ?_
  refine lv_iload hx hb dX11_feed_56 (lv_at hl 5 rfl) ?_
  have hPc := hP.sub (ws' := [(a0, .inr (10, [.ref tb, .int (nI (12 + 1 + 1 + 1 + 1))])), (tb, .inl (cB, 900, .inl fb2_5))]) [1, 2] rfl
  have hDc := hD.sub (ws' := [(a0, .inr (10, [.ref tb, .int (nI (12 + 1 + 1 + 1 + 1))])), (tb, .inl (cB, 900, .inl fb2_5))]) [1, 2] (by decide) rfl
  have hKc := hK.sub (tys' := [(cB, .byte)]) [0] rfl
  have hFc := va_free (wc := [(a0, .inr (10, [.ref tb, .int (nI (12 + 1 + 1 + 1 + 1))])), (tb, .inl (cB, 900, .inl fb2_5))]) hD hS hA [1, 2] rfl
  refine va_callv (va_runV (As := [.int k4]) (rest := []) ⟨hx, hb, hml, hown, hT⟩ (c_append l dC dI a0 (nI (12 + 1 + 1 + 1 + 1)) tb cB fb2_5 H.size k4 16 rfl (by decide)) (cwV 1 hT (gV w397 w398 w399 w2 w400) rfl rfl rfl (by decide +kernel) ⟨(Nat.le_of_ble_eq_true rfl), (Nat.le_of_ble_eq_true rfl)⟩) ⟨pcW.blind, va_recv hKc hPc (ci := 10) (q0 := 0) rfl rfl, pcW.pre hPc hKc hDc⟩ rfl rfl hl.1 rfl (lv_room (Nat.le_of_ble_eq_true rfl)) dX11_feed_58 ⟨(Nat.le_of_ble_eq_true rfl), (Nat.le_of_ble_eq_true rfl)⟩) hS (fun q _ h => hFc q h) hFc (fun u t H1 locs ht hvm hw hB hz1 hk1 hS => ?_)
  obtain ⟨fb2_6, hP1, hK1, hD1⟩ := hB
  rw [ht] at hP1
  have hK1 := va_K.moved hvm.symm hK1
  obtain ⟨hP, hD⟩ := va_join (wr := [(h0, .inr (11, [.ref a0, .ref a1, .ref a2, .ref a3, .ref a4, .ref a5, .ref a6, .ref a7, .ref a8, .ref a9, .ref n0, .ref b0, .int (-1)]))]) (w1 := [(a0, .inr (10, [.ref tb, .int (nI (16 + 1 + 1 + 1 + 1))])), (tb, .inl (cB, 900, .inl fb2_6))]) hP hD [1, 2] [0] rfl rfl (by decide) (by decide) hk1 hFc hP1 hD1
  have hK := hK.app hK1
  generalize H1 = H at hP hS ⊢
  have hP : va_P (dC, dI) vwCl [(h0, .inr (11, [.ref a0, .ref a1, .ref a2, .ref a3, .ref a4, .ref a5, .ref a6, .ref a7, .ref a8, .ref a9, .ref n0, .ref b0, .int (-1)])), (a0, .inr (10, [.ref tb, .int (nI (16 + 1 + 1 + 1 + 1))])), (tb, .inl (cB, 900, .inl fb2_6))] H := hP
  have hD : va_D A [(h0, .inr (11, [.ref a0, .ref a1, .ref a2, .ref a3, .ref a4, .ref a5, .ref a6, .ref a7, .ref a8, .ref a9, .ref n0, .ref b0, .int (-1)])), (a0, .inr (10, [.ref tb, .int (nI (16 + 1 + 1 + 1 + 1))])), (tb, .inl (cB, 900, .inl fb2_6))] := hD
  have hK : va_K (dC, dI) vwCl [(cB, .byte), (cB, .byte), (cB, .byte), (cB, .byte), (cB, .byte), (cB, .byte)] s := hK
  refine W.widen (k := 0) (n := 0) (Nat.le_of_ble_eq_true rfl) (Nat.le_of_ble_eq_true rfl) ?_
  refine lv_aload_n hx hb dX11_feed_61 rfl (lv_at hl 0 rfl) ?_
  refine va_get (D := (dC, dI)) (ci := 11) (v := .ref a0) (C := RX11) (T := TX11) (N := 13) hx hb hT iX11 hown hK hP 0 rfl rfl 0 (by decide) (hT _ w353) (fun _ h9 => h9) rfl dX11_feed_62 ?_
  refine va_get (D := (dC, dI)) (ci := 10) (v := .int (nI (16 + 1 + 1 + 1 + 1))) (C := RX10) (T := TX10) (N := 2) hx hb hT iX10 hown hK hP 1 rfl rfl 1 (by decide) (hT _ w38) (fun _ h9 => h9) rfl dX11_feed_65 ?_
  refine W.widen (k := 0) (n := 0) (Nat.le_of_ble_eq_true rfl) (Nat.le_of_ble_eq_true rfl) ?_
  exact W.iret (v := nI (16 + 1 + 1 + 1 + 1)) hx hb hr (fun t ht hW => ⟨⟨nI (16 + 1 + 1 + 1 + 1), (), rfl, (by decide), trivial⟩, hS.F ht⟩) hS.2.2 dX11_feed_68

set_option maxHeartbeats 4000000 in
set_option maxRecDepth 100000 in
theorem m_feed (l : Launch) (dC : Nat → ClassId) (dI : Nat → Nat → Nat) (m0 : Nat) (g0 : Nat) (g1 : Nat) (g2 : Nat) (g3 : Nat) (g4 : Nat) (g9 : Nat) (g17 : Nat) (g18 : Nat) (g20 : Nat) (g21 : Nat) (g22 : Nat) (g23 : Nat) (g24 : Nat) (g25 : Nat) (g26 : Nat) (g27 : Nat) (g28 : Nat) (g29 : Nat) (g30 : Nat) (cU : ClassId) (fu : Nat → Int32) (sz : Nat) (k0 : Int32) (k1 : Int32) (k2 : Int32) (k3 : Int32) (k4 : Int32) : Met l yX12_feed (wT yX12_feed cX12_feed 8 (some .int)) ({ frames := 0, cells := 0, slots := 0, locals := 0 }) (pcW dC dI [.ref m0, .int k0, .int k1, .int k2, .int k3, .int k4] sz [(m0, .inr (12, [.ref g0, .ref g1, .ref g2, .ref g3, .ref g4, .int 0, .int 0, .int 0, .int 0, .ref g9, .int 0, .int 0, .int 0, .int 0, .int (-1), .int 0, .int 0, .ref g17, .ref g18, .int 0, .ref g20, .ref g21, .ref g22, .ref g23, .ref g24, .ref g25, .ref g26, .ref g27, .ref g28, .ref g29, .ref g30, .int 0])), (g9, .inl (cU, 900, .inl fu))] [(cU, .byte)]) (va_Qi (fun (r : Int32) (_ : Unit) => r = 20) (fun _ _ => True) (va_A [(m0, .inr (12, [.ref g0, .ref g1, .ref g2, .ref g3, .ref g4, .int 0, .int 0, .int 0, .int 0, .ref g9, .int 0, .int 0, .int 0, .int 0, .int (-1), .int 0, .int 0, .ref g17, .ref g18, .int 0, .ref g20, .ref g21, .ref g22, .ref g23, .ref g24, .ref g25, .ref g26, .ref g27, .ref g28, .ref g29, .ref g30, .int 0])), (g9, .inl (cU, 900, .inl fu))] sz)) 0 0 (va_A [(m0, .inr (12, [.ref g0, .ref g1, .ref g2, .ref g3, .ref g4, .int 0, .int 0, .int 0, .int 0, .ref g9, .int 0, .int 0, .int 0, .int 0, .int (-1), .int 0, .int 0, .ref g17, .ref g18, .int 0, .ref g20, .ref g21, .ref g22, .ref g23, .ref g24, .ref g25, .ref g26, .ref g27, .ref g28, .ref g29, .ref g30, .int 0])), (g9, .inl (cU, 900, .inl fu))] sz) := by
  refine Met.ofW (cc := cX12_feed) (maxL := 8) (ret := (some .int)) (by decide) rfl ?_
  intro p e s m args below meth c s₁ B hml hv
  obtain ⟨rfl, hsz, hP, hK, hD0⟩ := hv
  have hx := B.exec
  have hb := B.bytes
  have hr := B.returns
  have hT : ∀ w ∈ TB, w.before [.ref m0, .int k0, .int k1, .int k2, .int k3, .int k4].toArray s = true := fun w h => atoms_spec (ws := wT yX12_feed cX12_feed 8 (some .int)) B.pre w (List.mem_cons_of_mem _ h)
  have hown : s.vm.findClass RX12 = some m.cls := findClass_of_methodNamed B.named
  have hlocks := B.notSynchronized
  subst hsz
  have hD := hD0.self (sz := s.heap.size)
  generalize hAe : va_A [(m0, .inr (12, [.ref g0, .ref g1, .ref g2, .ref g3, .ref g4, .int 0, .int 0, .int 0, .int 0, .ref g9, .int 0, .int 0, .int 0, .int 0, .int (-1), .int 0, .int 0, .ref g17, .ref g18, .int 0, .ref g20, .ref g21, .ref g22, .ref g23, .ref g24, .ref g25, .ref g26, .ref g27, .ref g28, .ref g29, .ref g30, .int 0])), (g9, .inl (cU, 900, .inl fu))] s.heap.size = A at hD ⊢
  have hA : ∀ q : Nat, s.heap.size ≤ q → A q := fun q h => by rw [← hAe]; exact Or.inr h
  have hS : va_S A s.heap s.heap [] := va_S.rf
  have hP : va_P (dC, dI) vwCl [(m0, .inr (12, [.ref g0, .ref g1, .ref g2, .ref g3, .ref g4, .int 0, .int 0, .int 0, .int 0, .ref g9, .int 0, .int 0, .int 0, .int 0, .int (-1), .int 0, .int 0, .ref g17, .ref g18, .int 0, .ref g20, .ref g21, .ref g22, .ref g23, .ref g24, .ref g25, .ref g26, .ref g27, .ref g28, .ref g29, .ref g30, .int 0])), (g9, .inl (cU, 900, .inl fu))] s.heap := hP
  have hl := lv_entry ([.ref m0, .int k0, .int k1, .int k2, .int k3, .int k4]) (n := 8) (Nat.le_of_ble_eq_true rfl)
  rw [lg_entry_eq]
  generalize (lg_sl ([.ref m0, .int k0, .int k1, .int k2, .int k3, .int k4]) ++ List.replicate (8 - (lg_sl ([.ref m0, .int k0, .int k1, .int k2, .int k3, .int k4])).length) Slot.unset).toArray = ls at hl ⊢
  have hl : lv_has ls 8 [(0, .ref m0), (1, .int k0), (2, .int k1), (3, .int k2), (4, .int k3), (5, .int k4)] := hl
  refine lv_aload_n hx hb dX12_feed_0 rfl (lv_at hl 0 rfl) ?_
  refine lv_iconst (v := 0) hx hb dX12_feed_1 (by decide) ?_
  refine va_put (D := (dC, dI)) (ci := 12) (v := .int 0) (ty := .int) (C := RX12) (T := TX12) (N := 32) hx hb hT iX12 tyX12 tyX12_ok nmX12 hown hK hP hD hS 0 rfl rfl 8 (by decide) (hT _ w1090) (fun _ h9 => h9) rfl (by decide +kernel) rfl rfl (Nat.le_of_ble_eq_true rfl) dX12_feed_2 (fun H locs hP hD hS => ?_)
  have hP : va_P (dC, dI) vwCl [(m0, .inr (12, [.ref g0, .ref g1, .ref g2, .ref g3, .ref g4, .int 0, .int 0, .int 0, .int 0, .ref g9, .int 0, .int 0, .int 0, .int 0, .int (-1), .int 0, .int 0, .ref g17, .ref g18, .int 0, .ref g20, .ref g21, .ref g22, .ref g23, .ref g24, .ref g25, .ref g26, .ref g27, .ref g28, .ref g29, .ref g30, .int 0])), (g9, .inl (cU, 900, .inl fu))] H := hP
  have hD : va_D A [(m0, .inr (12, [.ref g0, .ref g1, .ref g2, .ref g3, .ref g4, .int 0, .int 0, .int 0, .int 0, .ref g9, .int 0, .int 0, .int 0, .int 0, .int (-1), .int 0, .int 0, .ref g17, .ref g18, .int 0, .ref g20, .ref g21, .ref g22, .ref g23, .ref g24, .ref g25, .ref g26, .ref g27, .ref g28, .ref g29, .ref g30, .int 0])), (g9, .inl (cU, 900, .inl fu))] := hD
  refine lv_aload_n hx hb dX12_feed_5 rfl (lv_at hl 0 rfl) ?_
  refine va_get (D := (dC, dI)) (ci := 12) (v := .int 0) (C := RX12) (T := TX12) (N := 32) hx hb hT iX12 hown hK hP 0 rfl rfl 10 (by decide) (hT _ w1092) (fun _ h9 => h9) rfl dX12_feed_6 ?_
  refine lv_bipush (v := 20) hx hb dX12_feed_9 (by decide) ?_
  refine lv_iadd hx hb dX12_feed_11 ?_
  refine lv_topi (fun z_1 ez_1 => ?_)
  obtain rfl : z_1 = 20 := ez_1.trans (by decide)
  refine lv_sipush (v := 900) hx hb dX12_feed_12 (by decide) ?_
  refine lv_icmp_le (tgt := 21) hx hb dX12_feed_15 (by decide) (fun _ => ?_) (fun h => absurd (by decide) h)
  refine lv_iconst (v := 0) hx hb dX12_feed_21 (by decide) ?_
  refine lv_istore (lv' := [(6, .int 0), (0, .ref m0), (1, .int k0), (2, .int k1), (3, .int k2), (4, .int k3), (5, .int k4)]) hx hb dX12_feed_22 hl (by decide) rfl (fun ls hl => ?_)
  have loop : ∀ (n i : Nat), i + n = 20 → ∀ (f_g9 : Nat → Int32) (H : Heap) (locs : List Loc), va_P (dC, dI) vwCl [(m0, .inr (12, [.ref g0, .ref g1, .ref g2, .ref g3, .ref g4, .int 0, .int 0, .int 0, .int 0, .ref g9, .int (nI i), .int 0, .int 0, .int 0, .int (-1), .int 0, .int 0, .ref g17, .ref g18, .int 0, .ref g20, .ref g21, .ref g22, .ref g23, .ref g24, .ref g25, .ref g26, .ref g27, .ref g28, .ref g29, .ref g30, .int 0])), (g9, .inl (cU, 900, .inl f_g9))] H → va_D A [(m0, .inr (12, [.ref g0, .ref g1, .ref g2, .ref g3, .ref g4, .int 0, .int 0, .int 0, .int 0, .ref g9, .int (nI i), .int 0, .int 0, .int 0, .int (-1), .int 0, .int 0, .ref g17, .ref g18, .int 0, .ref g20, .ref g21, .ref g22, .ref g23, .ref g24, .ref g25, .ref g26, .ref g27, .ref g28, .ref g29, .ref g30, .int 0])), (g9, .inl (cU, 900, .inl f_g9))] → va_S A s.heap H locs → ∀ ls : Array Slot, lv_has ls 8 [(6, .int (nI i)), (0, .ref m0), (1, .int k0), (2, .int k1), (3, .int k2), (4, .int k3), (5, .int k4)] → W p l e (headSpec (wT yX12_feed cX12_feed 8 (some .int)) { frames := 0, cells := 0, slots := 0, locals := 0 }).room s m [.ref m0, .int k0, .int k1, .int k2, .int k3, .int k4].toArray below meth c H locs 0 0 (MQ below (va_Qi (fun (r : Int32) (_ : Unit) => r = 20) (fun _ _ => True) A) [.ref m0, .int k0, .int k1, .int k2, .int k3, .int k4].toArray s 0 0 A) (F0 m 24 ls []) := by
    intro n
    induction n with
    | zero =>
      intro i hi f_g9 H locs hP hD hS ls hl
      obtain rfl : i = 20 := by omega
      refine lv_iload hx hb dX12_feed_24 (lv_at hl 0 rfl) ?_
      refine lv_bipush (v := 20) hx hb dX12_feed_26 (by decide) ?_
      refine lv_icmp_ge (tgt := 118) hx hb dX12_feed_28 (by decide) (fun _ => ?_) (fun h => absurd (by decide) h)
      refine lv_aload_n hx hb dX12_feed_118 rfl (lv_at hl 1 rfl) ?_
      refine va_get (D := (dC, dI)) (ci := 12) (v := .int (nI 20)) (C := RX12) (T := TX12) (N := 32) hx hb hT iX12 hown hK hP 0 rfl rfl 10 (by decide) (hT _ w1092) (fun _ h9 => h9) rfl dX12_feed_119 ?_
      refine W.widen (k := 0) (n := 0) (Nat.le_of_ble_eq_true rfl) (Nat.le_of_ble_eq_true rfl) ?_
      exact W.iret (v := nI 20) hx hb hr (fun t ht hW => ⟨⟨nI 20, (), rfl, (by decide), trivial⟩, hS.F ht⟩) hS.2.2 dX12_feed_122
    | succ n ih =>
      intro i hi f_g9 H locs hP hD hS ls hl
      have hlt : i < 20 := by omega
      refine lv_iload hx hb dX12_feed_24 (lv_at hl 0 rfl) ?_
      refine lv_bipush (v := 20) hx hb dX12_feed_26 (by decide) ?_
      refine lv_icmp_ge (tgt := 118) hx hb dX12_feed_28 (by decide) (fun h => absurd h (nI_ge (a := i) (b := 20) hlt (by decide))) (fun _ => ?_)
      refine lv_iload hx hb dX12_feed_31 (lv_at hl 0 rfl) ?_
      refine lv_iconst (v := 4) hx hb dX12_feed_33 (by decide) ?_
      refine lv_icmp_ge (tgt := 41) hx hb dX12_feed_34 (by decide) (fun c_34 => ?_) (fun c_34 => ?_)
      · refine lv_iload hx hb dX12_feed_41 (lv_at hl 0 rfl) ?_
        refine lv_bipush (v := 8) hx hb dX12_feed_43 (by decide) ?_
        refine lv_icmp_ge (tgt := 52) hx hb dX12_feed_45 (by decide) (fun c_45 => ?_) (fun c_45 => ?_)
        · refine lv_iload hx hb dX12_feed_52 (lv_at hl 0 rfl) ?_
          refine lv_bipush (v := 12) hx hb dX12_feed_54 (by decide) ?_
          refine lv_icmp_ge (tgt := 63) hx hb dX12_feed_56 (by decide) (fun c_56 => ?_) (fun c_56 => ?_)
          · refine lv_iload hx hb dX12_feed_63 (lv_at hl 0 rfl) ?_
            refine lv_bipush (v := 16) hx hb dX12_feed_65 (by decide) ?_
            refine lv_icmp_ge (tgt := 75) hx hb dX12_feed_67 (by decide) (fun c_67 => ?_) (fun c_67 => ?_)
            · refine lv_iload hx hb dX12_feed_75 (lv_at hl 6 rfl) ?_
              refine lv_istore (lv' := [(7, .int k4), (6, .int (nI i)), (0, .ref m0), (1, .int k0), (2, .int k1), (3, .int k2), (4, .int k3), (5, .int k4)]) hx hb dX12_feed_77 hl (by decide) rfl (fun ls hl => ?_)
              refine lv_aload_n hx hb dX12_feed_79 rfl (lv_at hl 2 rfl) ?_
              refine va_get (D := (dC, dI)) (ci := 12) (v := .ref g9) (C := RX12) (T := TX12) (N := 32) hx hb hT iX12 hown hK hP 0 rfl rfl 9 (by decide) (hT _ w1091) (fun _ h9 => h9) rfl dX12_feed_80 ?_
              refine lv_aload_n hx hb dX12_feed_83 rfl (lv_at hl 2 rfl) ?_
              refine va_get (D := (dC, dI)) (ci := 12) (v := .int (nI i)) (C := RX12) (T := TX12) (N := 32) hx hb hT iX12 hown hK hP 0 rfl rfl 10 (by decide) (hT _ w1092) (fun _ h9 => h9) rfl dX12_feed_84 ?_
              refine lv_iload hx hb dX12_feed_87 (lv_at hl 0 rfl) ?_
              refine lv_bipush (v := 24) hx hb dX12_feed_89 (by decide) ?_
              refine lv_bipush (v := 8) hx hb dX12_feed_91 (by decide) ?_
              refine lv_iload hx hb dX12_feed_93 (lv_at hl 1 rfl) ?_
              refine lv_iconst (v := 4) hx hb dX12_feed_95 (by decide) ?_
              refine lv_irem hx hb dX12_feed_96 (by decide) ?_
              refine lv_topi (fun z_2 ez_2 => ?_)
              refine lv_imul hx hb dX12_feed_97 ?_
              refine lv_topi (fun z_3 ez_3 => ?_)
              refine lv_isub hx hb dX12_feed_98 ?_
              refine lv_topi (fun z_4 ez_4 => ?_)
              refine lv_ishr hx hb dX12_feed_99 ?_
              refine lv_topi (fun z_5 ez_5 => ?_)
              refine lv_i2b hx hb dX12_feed_100 rfl ?_
              refine lv_topi (fun z_6 ez_6 => ?_)
              refine va_bast hx hb hK hP hD hS 1 0 rfl rfl (vp_in_nI (by omega) (by decide)) dX12_feed_101 (fun H locs hP hD hS => ?_)
              obtain ⟨f_7, hf_7⟩ : ∃ gg : Nat → Int32, gg = upd f_g9 (nI i).toNatClampNeg (vp_nar .byte z_6) := ⟨_, rfl⟩
              rw [← hf_7] at hP hD
              have hP : va_P (dC, dI) vwCl [(m0, .inr (12, [.ref g0, .ref g1, .ref g2, .ref g3, .ref g4, .int 0, .int 0, .int 0, .int 0, .ref g9, .int (nI i), .int 0, .int 0, .int 0, .int (-1), .int 0, .int 0, .ref g17, .ref g18, .int 0, .ref g20, .ref g21, .ref g22, .ref g23, .ref g24, .ref g25, .ref g26, .ref g27, .ref g28, .ref g29, .ref g30, .int 0])), (g9, .inl (cU, 900, .inl f_7))] H := hP
              have hD : va_D A [(m0, .inr (12, [.ref g0, .ref g1, .ref g2, .ref g3, .ref g4, .int 0, .int 0, .int 0, .int 0, .ref g9, .int (nI i), .int 0, .int 0, .int 0, .int (-1), .int 0, .int 0, .ref g17, .ref g18, .int 0, .ref g20, .ref g21, .ref g22, .ref g23, .ref g24, .ref g25, .ref g26, .ref g27, .ref g28, .ref g29, .ref g30, .int 0])), (g9, .inl (cU, 900, .inl f_7))] := hD
              refine lv_aload_n hx hb dX12_feed_102 rfl (lv_at hl 2 rfl) ?_
              refine lv_dup hx hb dX12_feed_103 rfl ?_
              refine va_get (D := (dC, dI)) (ci := 12) (v := .int (nI i)) (C := RX12) (T := TX12) (N := 32) hx hb hT iX12 hown hK hP 0 rfl rfl 10 (by decide) (hT _ w1092) (fun _ h9 => h9) rfl dX12_feed_104 ?_
              refine lv_iconst (v := 1) hx hb dX12_feed_107 (by decide) ?_
              refine lv_iadd hx hb dX12_feed_108 ?_
              refine lv_topi (fun z_8 ez_8 => ?_)
              obtain rfl : z_8 = nI (i + 1) := ez_8.trans (nI_1 _)
              refine va_put (D := (dC, dI)) (ci := 12) (v := .int (nI (i + 1))) (ty := .int) (C := RX12) (T := TX12) (N := 32) hx hb hT iX12 tyX12 tyX12_ok nmX12 hown hK hP hD hS 0 rfl rfl 10 (by decide) (hT _ w1092) (fun _ h9 => h9) rfl (by decide +kernel) rfl rfl (Nat.le_of_ble_eq_true rfl) dX12_feed_109 (fun H locs hP hD hS => ?_)
              have hP : va_P (dC, dI) vwCl [(m0, .inr (12, [.ref g0, .ref g1, .ref g2, .ref g3, .ref g4, .int 0, .int 0, .int 0, .int 0, .ref g9, .int (nI (i + 1)), .int 0, .int 0, .int 0, .int (-1), .int 0, .int 0, .ref g17, .ref g18, .int 0, .ref g20, .ref g21, .ref g22, .ref g23, .ref g24, .ref g25, .ref g26, .ref g27, .ref g28, .ref g29, .ref g30, .int 0])), (g9, .inl (cU, 900, .inl f_7))] H := hP
              have hD : va_D A [(m0, .inr (12, [.ref g0, .ref g1, .ref g2, .ref g3, .ref g4, .int 0, .int 0, .int 0, .int 0, .ref g9, .int (nI (i + 1)), .int 0, .int 0, .int 0, .int (-1), .int 0, .int 0, .ref g17, .ref g18, .int 0, .ref g20, .ref g21, .ref g22, .ref g23, .ref g24, .ref g25, .ref g26, .ref g27, .ref g28, .ref g29, .ref g30, .int 0])), (g9, .inl (cU, 900, .inl f_7))] := hD
              refine lv_iinc (v := nI (i + 1)) (lv' := [(6, .int (nI (i + 1))), (7, .int k4), (0, .ref m0), (1, .int k0), (2, .int k1), (3, .int k2), (4, .int k3), (5, .int k4)]) hx hb dX12_feed_112 hl (k := 1) rfl (nI_1 _) (by decide) rfl (fun ls hl => ?_)
              refine lv_goto (tgt := 24) hx hb dX12_feed_115 (by decide) ?_
              exact ih (i + 1) (by omega) f_7 _ _ (hP.sub [0, 1] rfl) (hD.sub [0, 1] (by decide) rfl) hS ls (lv_sub hl [0, 2, 3, 4, 5, 6, 7] rfl)
            · refine lv_iload hx hb dX12_feed_70 (lv_at hl 5 rfl) ?_
              refine lv_goto (tgt := 77) hx hb dX12_feed_72 (by decide) ?_
              refine lv_istore (lv' := [(7, .int k3), (6, .int (nI i)), (0, .ref m0), (1, .int k0), (2, .int k1), (3, .int k2), (4, .int k3), (5, .int k4)]) hx hb dX12_feed_77 hl (by decide) rfl (fun ls hl => ?_)
              refine lv_aload_n hx hb dX12_feed_79 rfl (lv_at hl 2 rfl) ?_
              refine va_get (D := (dC, dI)) (ci := 12) (v := .ref g9) (C := RX12) (T := TX12) (N := 32) hx hb hT iX12 hown hK hP 0 rfl rfl 9 (by decide) (hT _ w1091) (fun _ h9 => h9) rfl dX12_feed_80 ?_
              refine lv_aload_n hx hb dX12_feed_83 rfl (lv_at hl 2 rfl) ?_
              refine va_get (D := (dC, dI)) (ci := 12) (v := .int (nI i)) (C := RX12) (T := TX12) (N := 32) hx hb hT iX12 hown hK hP 0 rfl rfl 10 (by decide) (hT _ w1092) (fun _ h9 => h9) rfl dX12_feed_84 ?_
              refine lv_iload hx hb dX12_feed_87 (lv_at hl 0 rfl) ?_
              refine lv_bipush (v := 24) hx hb dX12_feed_89 (by decide) ?_
              refine lv_bipush (v := 8) hx hb dX12_feed_91 (by decide) ?_
              refine lv_iload hx hb dX12_feed_93 (lv_at hl 1 rfl) ?_
              refine lv_iconst (v := 4) hx hb dX12_feed_95 (by decide) ?_
              refine lv_irem hx hb dX12_feed_96 (by decide) ?_
              refine lv_topi (fun z_9 ez_9 => ?_)
              refine lv_imul hx hb dX12_feed_97 ?_
              refine lv_topi (fun z_10 ez_10 => ?_)
              refine lv_isub hx hb dX12_feed_98 ?_
              refine lv_topi (fun z_11 ez_11 => ?_)
              refine lv_ishr hx hb dX12_feed_99 ?_
              refine lv_topi (fun z_12 ez_12 => ?_)
              refine lv_i2b hx hb dX12_feed_100 rfl ?_
              refine lv_topi (fun z_13 ez_13 => ?_)
              refine va_bast hx hb hK hP hD hS 1 0 rfl rfl (vp_in_nI (by omega) (by decide)) dX12_feed_101 (fun H locs hP hD hS => ?_)
              obtain ⟨f_14, hf_14⟩ : ∃ gg : Nat → Int32, gg = upd f_g9 (nI i).toNatClampNeg (vp_nar .byte z_13) := ⟨_, rfl⟩
              rw [← hf_14] at hP hD
              have hP : va_P (dC, dI) vwCl [(m0, .inr (12, [.ref g0, .ref g1, .ref g2, .ref g3, .ref g4, .int 0, .int 0, .int 0, .int 0, .ref g9, .int (nI i), .int 0, .int 0, .int 0, .int (-1), .int 0, .int 0, .ref g17, .ref g18, .int 0, .ref g20, .ref g21, .ref g22, .ref g23, .ref g24, .ref g25, .ref g26, .ref g27, .ref g28, .ref g29, .ref g30, .int 0])), (g9, .inl (cU, 900, .inl f_14))] H := hP
              have hD : va_D A [(m0, .inr (12, [.ref g0, .ref g1, .ref g2, .ref g3, .ref g4, .int 0, .int 0, .int 0, .int 0, .ref g9, .int (nI i), .int 0, .int 0, .int 0, .int (-1), .int 0, .int 0, .ref g17, .ref g18, .int 0, .ref g20, .ref g21, .ref g22, .ref g23, .ref g24, .ref g25, .ref g26, .ref g27, .ref g28, .ref g29, .ref g30, .int 0])), (g9, .inl (cU, 900, .inl f_14))] := hD
              refine lv_aload_n hx hb dX12_feed_102 rfl (lv_at hl 2 rfl) ?_
              refine lv_dup hx hb dX12_feed_103 rfl ?_
              refine va_get (D := (dC, dI)) (ci := 12) (v := .int (nI i)) (C := RX12) (T := TX12) (N := 32) hx hb hT iX12 hown hK hP 0 rfl rfl 10 (by decide) (hT _ w1092) (fun _ h9 => h9) rfl dX12_feed_104 ?_
              refine lv_iconst (v := 1) hx hb dX12_feed_107 (by decide) ?_
              refine lv_iadd hx hb dX12_feed_108 ?_
              refine lv_topi (fun z_15 ez_15 => ?_)
              obtain rfl : z_15 = nI (i + 1) := ez_15.trans (nI_1 _)
              refine va_put (D := (dC, dI)) (ci := 12) (v := .int (nI (i + 1))) (ty := .int) (C := RX12) (T := TX12) (N := 32) hx hb hT iX12 tyX12 tyX12_ok nmX12 hown hK hP hD hS 0 rfl rfl 10 (by decide) (hT _ w1092) (fun _ h9 => h9) rfl (by decide +kernel) rfl rfl (Nat.le_of_ble_eq_true rfl) dX12_feed_109 (fun H locs hP hD hS => ?_)
              have hP : va_P (dC, dI) vwCl [(m0, .inr (12, [.ref g0, .ref g1, .ref g2, .ref g3, .ref g4, .int 0, .int 0, .int 0, .int 0, .ref g9, .int (nI (i + 1)), .int 0, .int 0, .int 0, .int (-1), .int 0, .int 0, .ref g17, .ref g18, .int 0, .ref g20, .ref g21, .ref g22, .ref g23, .ref g24, .ref g25, .ref g26, .ref g27, .ref g28, .ref g29, .ref g30, .int 0])), (g9, .inl (cU, 900, .inl f_14))] H := hP
              have hD : va_D A [(m0, .inr (12, [.ref g0, .ref g1, .ref g2, .ref g3, .ref g4, .int 0, .int 0, .int 0, .int 0, .ref g9, .int (nI (i + 1)), .int 0, .int 0, .int 0, .int (-1), .int 0, .int 0, .ref g17, .ref g18, .int 0, .ref g20, .ref g21, .ref g22, .ref g23, .ref g24, .ref g25, .ref g26, .ref g27, .ref g28, .ref g29, .ref g30, .int 0])), (g9, .inl (cU, 900, .inl f_14))] := hD
              refine lv_iinc (v := nI (i + 1)) (lv' := [(6, .int (nI (i + 1))), (7, .int k3), (0, .ref m0), (1, .int k0), (2, .int k1), (3, .int k2), (4, .int k3), (5, .int k4)]) hx hb dX12_feed_112 hl (k := 1) rfl (nI_1 _) (by decide) rfl (fun ls hl => ?_)
              refine lv_goto (tgt := 24) hx hb dX12_feed_115 (by decide) ?_
              exact ih (i + 1) (by omega) f_14 _ _ (hP.sub [0, 1] rfl) (hD.sub [0, 1] (by decide) rfl) hS ls (lv_sub hl [0, 2, 3, 4, 5, 6, 7] rfl)
          · refine lv_iload_n hx hb dX12_feed_59 rfl (lv_at hl 4 rfl) ?_
            refine lv_goto (tgt := 77) hx hb dX12_feed_60 (by decide) ?_
            refine lv_istore (lv' := [(7, .int k2), (6, .int (nI i)), (0, .ref m0), (1, .int k0), (2, .int k1), (3, .int k2), (4, .int k3), (5, .int k4)]) hx hb dX12_feed_77 hl (by decide) rfl (fun ls hl => ?_)
            refine lv_aload_n hx hb dX12_feed_79 rfl (lv_at hl 2 rfl) ?_
            refine va_get (D := (dC, dI)) (ci := 12) (v := .ref g9) (C := RX12) (T := TX12) (N := 32) hx hb hT iX12 hown hK hP 0 rfl rfl 9 (by decide) (hT _ w1091) (fun _ h9 => h9) rfl dX12_feed_80 ?_
            refine lv_aload_n hx hb dX12_feed_83 rfl (lv_at hl 2 rfl) ?_
            refine va_get (D := (dC, dI)) (ci := 12) (v := .int (nI i)) (C := RX12) (T := TX12) (N := 32) hx hb hT iX12 hown hK hP 0 rfl rfl 10 (by decide) (hT _ w1092) (fun _ h9 => h9) rfl dX12_feed_84 ?_
            refine lv_iload hx hb dX12_feed_87 (lv_at hl 0 rfl) ?_
            refine lv_bipush (v := 24) hx hb dX12_feed_89 (by decide) ?_
            refine lv_bipush (v := 8) hx hb dX12_feed_91 (by decide) ?_
            refine lv_iload hx hb dX12_feed_93 (lv_at hl 1 rfl) ?_
            refine lv_iconst (v := 4) hx hb dX12_feed_95 (by decide) ?_
            refine lv_irem hx hb dX12_feed_96 (by decide) ?_
            refine lv_topi (fun z_16 ez_16 => ?_)
            refine lv_imul hx hb dX12_feed_97 ?_
            refine lv_topi (fun z_17 ez_17 => ?_)
            refine lv_isub hx hb dX12_feed_98 ?_
            refine lv_topi (fun z_18 ez_18 => ?_)
            refine lv_ishr hx hb dX12_feed_99 ?_
            refine lv_topi (fun z_19 ez_19 => ?_)
            refine lv_i2b hx hb dX12_feed_100 rfl ?_
            refine lv_topi (fun z_20 ez_20 => ?_)
            refine va_bast hx hb hK hP hD hS 1 0 rfl rfl (vp_in_nI (by omega) (by decide)) dX12_feed_101 (fun H locs hP hD hS => ?_)
            obtain ⟨f_21, hf_21⟩ : ∃ gg : Nat → Int32, gg = upd f_g9 (nI i).toNatClampNeg (vp_nar .byte z_20) := ⟨_, rfl⟩
            rw [← hf_21] at hP hD
            have hP : va_P (dC, dI) vwCl [(m0, .inr (12, [.ref g0, .ref g1, .ref g2, .ref g3, .ref g4, .int 0, .int 0, .int 0, .int 0, .ref g9, .int (nI i), .int 0, .int 0, .int 0, .int (-1), .int 0, .int 0, .ref g17, .ref g18, .int 0, .ref g20, .ref g21, .ref g22, .ref g23, .ref g24, .ref g25, .ref g26, .ref g27, .ref g28, .ref g29, .ref g30, .int 0])), (g9, .inl (cU, 900, .inl f_21))] H := hP
            have hD : va_D A [(m0, .inr (12, [.ref g0, .ref g1, .ref g2, .ref g3, .ref g4, .int 0, .int 0, .int 0, .int 0, .ref g9, .int (nI i), .int 0, .int 0, .int 0, .int (-1), .int 0, .int 0, .ref g17, .ref g18, .int 0, .ref g20, .ref g21, .ref g22, .ref g23, .ref g24, .ref g25, .ref g26, .ref g27, .ref g28, .ref g29, .ref g30, .int 0])), (g9, .inl (cU, 900, .inl f_21))] := hD
            refine lv_aload_n hx hb dX12_feed_102 rfl (lv_at hl 2 rfl) ?_
            refine lv_dup hx hb dX12_feed_103 rfl ?_
            refine va_get (D := (dC, dI)) (ci := 12) (v := .int (nI i)) (C := RX12) (T := TX12) (N := 32) hx hb hT iX12 hown hK hP 0 rfl rfl 10 (by decide) (hT _ w1092) (fun _ h9 => h9) rfl dX12_feed_104 ?_
            refine lv_iconst (v := 1) hx hb dX12_feed_107 (by decide) ?_
            refine lv_iadd hx hb dX12_feed_108 ?_
            refine lv_topi (fun z_22 ez_22 => ?_)
            obtain rfl : z_22 = nI (i + 1) := ez_22.trans (nI_1 _)
            refine va_put (D := (dC, dI)) (ci := 12) (v := .int (nI (i + 1))) (ty := .int) (C := RX12) (T := TX12) (N := 32) hx hb hT iX12 tyX12 tyX12_ok nmX12 hown hK hP hD hS 0 rfl rfl 10 (by decide) (hT _ w1092) (fun _ h9 => h9) rfl (by decide +kernel) rfl rfl (Nat.le_of_ble_eq_true rfl) dX12_feed_109 (fun H locs hP hD hS => ?_)
            have hP : va_P (dC, dI) vwCl [(m0, .inr (12, [.ref g0, .ref g1, .ref g2, .ref g3, .ref g4, .int 0, .int 0, .int 0, .int 0, .ref g9, .int (nI (i + 1)), .int 0, .int 0, .int 0, .int (-1), .int 0, .int 0, .ref g17, .ref g18, .int 0, .ref g20, .ref g21, .ref g22, .ref g23, .ref g24, .ref g25, .ref g26, .ref g27, .ref g28, .ref g29, .ref g30, .int 0])), (g9, .inl (cU, 900, .inl f_21))] H := hP
            have hD : va_D A [(m0, .inr (12, [.ref g0, .ref g1, .ref g2, .ref g3, .ref g4, .int 0, .int 0, .int 0, .int 0, .ref g9, .int (nI (i + 1)), .int 0, .int 0, .int 0, .int (-1), .int 0, .int 0, .ref g17, .ref g18, .int 0, .ref g20, .ref g21, .ref g22, .ref g23, .ref g24, .ref g25, .ref g26, .ref g27, .ref g28, .ref g29, .ref g30, .int 0])), (g9, .inl (cU, 900, .inl f_21))] := hD
            refine lv_iinc (v := nI (i + 1)) (lv' := [(6, .int (nI (i + 1))), (7, .int k2), (0, .ref m0), (1, .int k0), (2, .int k1), (3, .int k2), (4, .int k3), (5, .int k4)]) hx hb dX12_feed_112 hl (k := 1) rfl (nI_1 _) (by decide) rfl (fun ls hl => ?_)
            refine lv_goto (tgt := 24) hx hb dX12_feed_115 (by decide) ?_
            exact ih (i + 1) (by omega) f_21 _ _ (hP.sub [0, 1] rfl) (hD.sub [0, 1] (by decide) rfl) hS ls (lv_sub hl [0, 2, 3, 4, 5, 6, 7] rfl)
        · refine lv_iload_n hx hb dX12_feed_48 rfl (lv_at hl 3 rfl) ?_
          refine lv_goto (tgt := 77) hx hb dX12_feed_49 (by decide) ?_
          refine lv_istore (lv' := [(7, .int k1), (6, .int (nI i)), (0, .ref m0), (1, .int k0), (2, .int k1), (3, .int k2), (4, .int k3), (5, .int k4)]) hx hb dX12_feed_77 hl (by decide) rfl (fun ls hl => ?_)
          refine lv_aload_n hx hb dX12_feed_79 rfl (lv_at hl 2 rfl) ?_
          refine va_get (D := (dC, dI)) (ci := 12) (v := .ref g9) (C := RX12) (T := TX12) (N := 32) hx hb hT iX12 hown hK hP 0 rfl rfl 9 (by decide) (hT _ w1091) (fun _ h9 => h9) rfl dX12_feed_80 ?_
          refine lv_aload_n hx hb dX12_feed_83 rfl (lv_at hl 2 rfl) ?_
          refine va_get (D := (dC, dI)) (ci := 12) (v := .int (nI i)) (C := RX12) (T := TX12) (N := 32) hx hb hT iX12 hown hK hP 0 rfl rfl 10 (by decide) (hT _ w1092) (fun _ h9 => h9) rfl dX12_feed_84 ?_
          refine lv_iload hx hb dX12_feed_87 (lv_at hl 0 rfl) ?_
          refine lv_bipush (v := 24) hx hb dX12_feed_89 (by decide) ?_
          refine lv_bipush (v := 8) hx hb dX12_feed_91 (by decide) ?_
          refine lv_iload hx hb dX12_feed_93 (lv_at hl 1 rfl) ?_
          refine lv_iconst (v := 4) hx hb dX12_feed_95 (by decide) ?_
          refine lv_irem hx hb dX12_feed_96 (by decide) ?_
          refine lv_topi (fun z_23 ez_23 => ?_)
          refine lv_imul hx hb dX12_feed_97 ?_
          refine lv_topi (fun z_24 ez_24 => ?_)
          refine lv_isub hx hb dX12_feed_98 ?_
          refine lv_topi (fun z_25 ez_25 => ?_)
          refine lv_ishr hx hb dX12_feed_99 ?_
          refine lv_topi (fun z_26 ez_26 => ?_)
          refine lv_i2b hx hb dX12_feed_100 rfl ?_
          refine lv_topi (fun z_27 ez_27 => ?_)
          refine va_bast hx hb hK hP hD hS 1 0 rfl rfl (vp_in_nI (by omega) (by decide)) dX12_feed_101 (fun H locs hP hD hS => ?_)
          obtain ⟨f_28, hf_28⟩ : ∃ gg : Nat → Int32, gg = upd f_g9 (nI i).toNatClampNeg (vp_nar .byte z_27) := ⟨_, rfl⟩
          rw [← hf_28] at hP hD
          have hP : va_P (dC, dI) vwCl [(m0, .inr (12, [.ref g0, .ref g1, .ref g2, .ref g3, .ref g4, .int 0, .int 0, .int 0, .int 0, .ref g9, .int (nI i), .int 0, .int 0, .int 0, .int (-1), .int 0, .int 0, .ref g17, .ref g18, .int 0, .ref g20, .ref g21, .ref g22, .ref g23, .ref g24, .ref g25, .ref g26, .ref g27, .ref g28, .ref g29, .ref g30, .int 0])), (g9, .inl (cU, 900, .inl f_28))] H := hP
          have hD : va_D A [(m0, .inr (12, [.ref g0, .ref g1, .ref g2, .ref g3, .ref g4, .int 0, .int 0, .int 0, .int 0, .ref g9, .int (nI i), .int 0, .int 0, .int 0, .int (-1), .int 0, .int 0, .ref g17, .ref g18, .int 0, .ref g20, .ref g21, .ref g22, .ref g23, .ref g24, .ref g25, .ref g26, .ref g27, .ref g28, .ref g29, .ref g30, .int 0])), (g9, .inl (cU, 900, .inl f_28))] := hD
          refine lv_aload_n hx hb dX12_feed_102 rfl (lv_at hl 2 rfl) ?_
          refine lv_dup hx hb dX12_feed_103 rfl ?_
          refine va_get (D := (dC, dI)) (ci := 12) (v := .int (nI i)) (C := RX12) (T := TX12) (N := 32) hx hb hT iX12 hown hK hP 0 rfl rfl 10 (by decide) (hT _ w1092) (fun _ h9 => h9) rfl dX12_feed_104 ?_
          refine lv_iconst (v := 1) hx hb dX12_feed_107 (by decide) ?_
          refine lv_iadd hx hb dX12_feed_108 ?_
          refine lv_topi (fun z_29 ez_29 => ?_)
          obtain rfl : z_29 = nI (i + 1) := ez_29.trans (nI_1 _)
          refine va_put (D := (dC, dI)) (ci := 12) (v := .int (nI (i + 1))) (ty := .int) (C := RX12) (T := TX12) (N := 32) hx hb hT iX12 tyX12 tyX12_ok nmX12 hown hK hP hD hS 0 rfl rfl 10 (by decide) (hT _ w1092) (fun _ h9 => h9) rfl (by decide +kernel) rfl rfl (Nat.le_of_ble_eq_true rfl) dX12_feed_109 (fun H locs hP hD hS => ?_)
          have hP : va_P (dC, dI) vwCl [(m0, .inr (12, [.ref g0, .ref g1, .ref g2, .ref g3, .ref g4, .int 0, .int 0, .int 0, .int 0, .ref g9, .int (nI (i + 1)), .int 0, .int 0, .int 0, .int (-1), .int 0, .int 0, .ref g17, .ref g18, .int 0, .ref g20, .ref g21, .ref g22, .ref g23, .ref g24, .ref g25, .ref g26, .ref g27, .ref g28, .ref g29, .ref g30, .int 0])), (g9, .inl (cU, 900, .inl f_28))] H := hP
          have hD : va_D A [(m0, .inr (12, [.ref g0, .ref g1, .ref g2, .ref g3, .ref g4, .int 0, .int 0, .int 0, .int 0, .ref g9, .int (nI (i + 1)), .int 0, .int 0, .int 0, .int (-1), .int 0, .int 0, .ref g17, .ref g18, .int 0, .ref g20, .ref g21, .ref g22, .ref g23, .ref g24, .ref g25, .ref g26, .ref g27, .ref g28, .ref g29, .ref g30, .int 0])), (g9, .inl (cU, 900, .inl f_28))] := hD
          refine lv_iinc (v := nI (i + 1)) (lv' := [(6, .int (nI (i + 1))), (7, .int k1), (0, .ref m0), (1, .int k0), (2, .int k1), (3, .int k2), (4, .int k3), (5, .int k4)]) hx hb dX12_feed_112 hl (k := 1) rfl (nI_1 _) (by decide) rfl (fun ls hl => ?_)
          refine lv_goto (tgt := 24) hx hb dX12_feed_115 (by decide) ?_
          exact ih (i + 1) (by omega) f_28 _ _ (hP.sub [0, 1] rfl) (hD.sub [0, 1] (by decide) rfl) hS ls (lv_sub hl [0, 2, 3, 4, 5, 6, 7] rfl)
      · refine lv_iload_n hx hb dX12_feed_37 rfl (lv_at hl 2 rfl) ?_
        refine lv_goto (tgt := 77) hx hb dX12_feed_38 (by decide) ?_
        refine lv_istore (lv' := [(7, .int k0), (6, .int (nI i)), (0, .ref m0), (1, .int k0), (2, .int k1), (3, .int k2), (4, .int k3), (5, .int k4)]) hx hb dX12_feed_77 hl (by decide) rfl (fun ls hl => ?_)
        refine lv_aload_n hx hb dX12_feed_79 rfl (lv_at hl 2 rfl) ?_
        refine va_get (D := (dC, dI)) (ci := 12) (v := .ref g9) (C := RX12) (T := TX12) (N := 32) hx hb hT iX12 hown hK hP 0 rfl rfl 9 (by decide) (hT _ w1091) (fun _ h9 => h9) rfl dX12_feed_80 ?_
        refine lv_aload_n hx hb dX12_feed_83 rfl (lv_at hl 2 rfl) ?_
        refine va_get (D := (dC, dI)) (ci := 12) (v := .int (nI i)) (C := RX12) (T := TX12) (N := 32) hx hb hT iX12 hown hK hP 0 rfl rfl 10 (by decide) (hT _ w1092) (fun _ h9 => h9) rfl dX12_feed_84 ?_
        refine lv_iload hx hb dX12_feed_87 (lv_at hl 0 rfl) ?_
        refine lv_bipush (v := 24) hx hb dX12_feed_89 (by decide) ?_
        refine lv_bipush (v := 8) hx hb dX12_feed_91 (by decide) ?_
        refine lv_iload hx hb dX12_feed_93 (lv_at hl 1 rfl) ?_
        refine lv_iconst (v := 4) hx hb dX12_feed_95 (by decide) ?_
        refine lv_irem hx hb dX12_feed_96 (by decide) ?_
        refine lv_topi (fun z_30 ez_30 => ?_)
        refine lv_imul hx hb dX12_feed_97 ?_
        refine lv_topi (fun z_31 ez_31 => ?_)
        refine lv_isub hx hb dX12_feed_98 ?_
        refine lv_topi (fun z_32 ez_32 => ?_)
        refine lv_ishr hx hb dX12_feed_99 ?_
        refine lv_topi (fun z_33 ez_33 => ?_)
        refine lv_i2b hx hb dX12_feed_100 rfl ?_
        refine lv_topi (fun z_34 ez_34 => ?_)
        refine va_bast hx hb hK hP hD hS 1 0 rfl rfl (vp_in_nI (by omega) (by decide)) dX12_feed_101 (fun H locs hP hD hS => ?_)
        obtain ⟨f_35, hf_35⟩ : ∃ gg : Nat → Int32, gg = upd f_g9 (nI i).toNatClampNeg (vp_nar .byte z_34) := ⟨_, rfl⟩
        rw [← hf_35] at hP hD
        have hP : va_P (dC, dI) vwCl [(m0, .inr (12, [.ref g0, .ref g1, .ref g2, .ref g3, .ref g4, .int 0, .int 0, .int 0, .int 0, .ref g9, .int (nI i), .int 0, .int 0, .int 0, .int (-1), .int 0, .int 0, .ref g17, .ref g18, .int 0, .ref g20, .ref g21, .ref g22, .ref g23, .ref g24, .ref g25, .ref g26, .ref g27, .ref g28, .ref g29, .ref g30, .int 0])), (g9, .inl (cU, 900, .inl f_35))] H := hP
        have hD : va_D A [(m0, .inr (12, [.ref g0, .ref g1, .ref g2, .ref g3, .ref g4, .int 0, .int 0, .int 0, .int 0, .ref g9, .int (nI i), .int 0, .int 0, .int 0, .int (-1), .int 0, .int 0, .ref g17, .ref g18, .int 0, .ref g20, .ref g21, .ref g22, .ref g23, .ref g24, .ref g25, .ref g26, .ref g27, .ref g28, .ref g29, .ref g30, .int 0])), (g9, .inl (cU, 900, .inl f_35))] := hD
        refine lv_aload_n hx hb dX12_feed_102 rfl (lv_at hl 2 rfl) ?_
        refine lv_dup hx hb dX12_feed_103 rfl ?_
        refine va_get (D := (dC, dI)) (ci := 12) (v := .int (nI i)) (C := RX12) (T := TX12) (N := 32) hx hb hT iX12 hown hK hP 0 rfl rfl 10 (by decide) (hT _ w1092) (fun _ h9 => h9) rfl dX12_feed_104 ?_
        refine lv_iconst (v := 1) hx hb dX12_feed_107 (by decide) ?_
        refine lv_iadd hx hb dX12_feed_108 ?_
        refine lv_topi (fun z_36 ez_36 => ?_)
        obtain rfl : z_36 = nI (i + 1) := ez_36.trans (nI_1 _)
        refine va_put (D := (dC, dI)) (ci := 12) (v := .int (nI (i + 1))) (ty := .int) (C := RX12) (T := TX12) (N := 32) hx hb hT iX12 tyX12 tyX12_ok nmX12 hown hK hP hD hS 0 rfl rfl 10 (by decide) (hT _ w1092) (fun _ h9 => h9) rfl (by decide +kernel) rfl rfl (Nat.le_of_ble_eq_true rfl) dX12_feed_109 (fun H locs hP hD hS => ?_)
        have hP : va_P (dC, dI) vwCl [(m0, .inr (12, [.ref g0, .ref g1, .ref g2, .ref g3, .ref g4, .int 0, .int 0, .int 0, .int 0, .ref g9, .int (nI (i + 1)), .int 0, .int 0, .int 0, .int (-1), .int 0, .int 0, .ref g17, .ref g18, .int 0, .ref g20, .ref g21, .ref g22, .ref g23, .ref g24, .ref g25, .ref g26, .ref g27, .ref g28, .ref g29, .ref g30, .int 0])), (g9, .inl (cU, 900, .inl f_35))] H := hP
        have hD : va_D A [(m0, .inr (12, [.ref g0, .ref g1, .ref g2, .ref g3, .ref g4, .int 0, .int 0, .int 0, .int 0, .ref g9, .int (nI (i + 1)), .int 0, .int 0, .int 0, .int (-1), .int 0, .int 0, .ref g17, .ref g18, .int 0, .ref g20, .ref g21, .ref g22, .ref g23, .ref g24, .ref g25, .ref g26, .ref g27, .ref g28, .ref g29, .ref g30, .int 0])), (g9, .inl (cU, 900, .inl f_35))] := hD
        refine lv_iinc (v := nI (i + 1)) (lv' := [(6, .int (nI (i + 1))), (7, .int k0), (0, .ref m0), (1, .int k0), (2, .int k1), (3, .int k2), (4, .int k3), (5, .int k4)]) hx hb dX12_feed_112 hl (k := 1) rfl (nI_1 _) (by decide) rfl (fun ls hl => ?_)
        refine lv_goto (tgt := 24) hx hb dX12_feed_115 (by decide) ?_
        exact ih (i + 1) (by omega) f_35 _ _ (hP.sub [0, 1] rfl) (hD.sub [0, 1] (by decide) rfl) hS ls (lv_sub hl [0, 2, 3, 4, 5, 6, 7] rfl)
  exact loop 20 0 (by omega) fu _ _ hP hD hS ls hl

set_option maxHeartbeats 4000000 in
set_option maxRecDepth 100000 in
theorem c_bclear (l : Launch) (dC : Nat → ClassId) (dI : Nat → Nat → Nat) (b0 : Nat) (e0 : Nat) (e1 : Nat) (e2 : Nat) (e3 : Nat) (e4 : Nat) (e5 : Nat) (cC : ClassId) (fc : Nat → Int32) (sz : Nat) : Met l yX0_clear (wT yX0_clear cX0_clear 1 none) ({ frames := 1, cells := 0, slots := 0, locals := 23 }) (pcW dC dI [.ref b0] sz [(b0, .inr (0, [.ref e0, .ref e1, .ref e2, .ref e3, .ref e4, .ref e5, .int 0, .int 0])), (e5, .inl (cC, 64, .inl fc))] [(cC, .int)]) (va_Qv (fun _ : Unit => True) (fun _ t => ∃ fc2 : Nat → Int32, pB dC dI (va_A [(b0, .inr (0, [.ref e0, .ref e1, .ref e2, .ref e3, .ref e4, .ref e5, .int 0, .int 0])), (e5, .inl (cC, 64, .inl fc))] sz) [(b0, .inr (0, [.ref e0, .ref e1, .ref e2, .ref e3, .ref e4, .ref e5, .int 0, .int 0])), (e5, .inl (cC, 64, .inl fc2))] [(cC, .int)] t) (va_A [(b0, .inr (0, [.ref e0, .ref e1, .ref e2, .ref e3, .ref e4, .ref e5, .int 0, .int 0])), (e5, .inl (cC, 64, .inl fc))] sz)) 0 0 (va_A [(b0, .inr (0, [.ref e0, .ref e1, .ref e2, .ref e3, .ref e4, .ref e5, .int 0, .int 0])), (e5, .inl (cC, 64, .inl fc))] sz) := by
  refine Met.ofW (cc := cX0_clear) (maxL := 1) (ret := none) (by decide) rfl ?_
  intro p e s m args below meth c s₁ B hml hv
  obtain ⟨rfl, hsz, hP, hK, hD0⟩ := hv
  have hx := B.exec
  have hb := B.bytes
  have hr := B.returns
  have hT : ∀ w ∈ TB, w.before [.ref b0].toArray s = true := fun w h => atoms_spec (ws := wT yX0_clear cX0_clear 1 none) B.pre w (List.mem_cons_of_mem _ h)
  have hown : s.vm.findClass RX0 = some m.cls := findClass_of_methodNamed B.named
  have hlocks := B.notSynchronized
  subst hsz
  have hD := hD0.self (sz := s.heap.size)
  generalize hAe : va_A [(b0, .inr (0, [.ref e0, .ref e1, .ref e2, .ref e3, .ref e4, .ref e5, .int 0, .int 0])), (e5, .inl (cC, 64, .inl fc))] s.heap.size = A at hD ⊢
  have hA : ∀ q : Nat, s.heap.size ≤ q → A q := fun q h => by rw [← hAe]; exact Or.inr h
  have hS : va_S A s.heap s.heap [] := va_S.rf
  have hP : va_P (dC, dI) vwCl [(b0, .inr (0, [.ref e0, .ref e1, .ref e2, .ref e3, .ref e4, .ref e5, .int 0, .int 0])), (e5, .inl (cC, 64, .inl fc))] s.heap := hP
  have hl := lv_entry ([.ref b0]) (n := 1) (Nat.le_of_ble_eq_true rfl)
  rw [lg_entry_eq]
  generalize (lg_sl ([.ref b0]) ++ List.replicate (1 - (lg_sl ([.ref b0])).length) Slot.unset).toArray = ls at hl ⊢
  have hl : lv_has ls 1 [(0, .ref b0)] := hl
  refine lv_aload_n hx hb dX0_clear_0 rfl (lv_at hl 0 rfl) ?_
  refine va_get (D := (dC, dI)) (ci := 0) (v := .ref e5) (C := RX0) (T := TX0) (N := 8) hx hb hT iX0 hown hK hP 0 rfl rfl 5 (by decide) (hT _ w109) (fun _ h9 => h9) rfl dX0_clear_1 ?_
  refine lv_ldc (v := 99999999) hx hb hown (hT _ w84) dX0_clear_4 ?_
  have hPc := hP.sub (ws' := [(e5, .inl (cC, 64, .inl fc))]) [1] rfl
  have hDc := hD.sub (ws' := [(e5, .inl (cC, 64, .inl fc))]) [1] (by decide) rfl
  have hKc := hK.sub (tys' := [(cC, .int)]) [0] rfl
  have hFc := va_free (wc := [(e5, .inl (cC, 64, .inl fc))]) hD hS hA [1] rfl
  refine va_callv (va_runS (As := [.ref e5, .int 99999999]) (rest := []) ⟨hx, hb, hml, hown, hT⟩ (j_fill l dC dI e5 cC fc s.heap.size 99999999) (va_cwS 2 hT (gS w85 w86 w6 w87) rfl rfl rfl (by decide +kernel) ⟨(Nat.le_of_ble_eq_true rfl), (Nat.le_of_ble_eq_true rfl)⟩) ⟨pcW.blind, pcW.pre hPc hKc hDc⟩ rfl rfl hl.1 rfl (lv_room (Nat.le_of_ble_eq_true rfl)) dX0_clear_6 ⟨(Nat.le_of_ble_eq_true rfl), (Nat.le_of_ble_eq_true rfl)⟩) hS (fun q _ h => hFc q h) hFc (fun u t H1 locs ht hvm hw hB hz1 hk1 hS => ?_)
  obtain ⟨f2_1, hP1, hK1, hD1⟩ := hB
  rw [ht] at hP1
  have hK1 := va_K.moved hvm.symm hK1
  obtain ⟨hP, hD⟩ := va_join (wr := [(b0, .inr (0, [.ref e0, .ref e1, .ref e2, .ref e3, .ref e4, .ref e5, .int 0, .int 0]))]) (w1 := [(e5, .inl (cC, 64, .inl f2_1))]) hP hD [1] [0] rfl rfl (by decide) (by decide) hk1 hFc hP1 hD1
  have hK := hK.app hK1
  generalize H1 = H at hP hS ⊢
  have hP : va_P (dC, dI) vwCl [(b0, .inr (0, [.ref e0, .ref e1, .ref e2, .ref e3, .ref e4, .ref e5, .int 0, .int 0])), (e5, .inl (cC, 64, .inl f2_1))] H := hP
  have hD : va_D A [(b0, .inr (0, [.ref e0, .ref e1, .ref e2, .ref e3, .ref e4, .ref e5, .int 0, .int 0])), (e5, .inl (cC, 64, .inl f2_1))] := hD
  have hK : va_K (dC, dI) vwCl [(cC, .int), (cC, .int)] s := hK
  refine W.widen (k := 0) (n := 0) (Nat.le_of_ble_eq_true rfl) (Nat.le_of_ble_eq_true rfl) ?_
  refine lv_aload_n hx hb dX0_clear_9 rfl (lv_at hl 0 rfl) ?_
  refine lv_iconst (v := 0) hx hb dX0_clear_10 (by decide) ?_
  refine va_put (D := (dC, dI)) (ci := 0) (v := .int 0) (ty := .int) (C := RX0) (T := TX0) (N := 8) hx hb hT iX0 tyX0 tyX0_ok nmX0 hown hK hP hD hS 0 rfl rfl 6 (by decide) (hT _ w112) (fun _ h9 => h9) rfl (by decide +kernel) rfl rfl (Nat.le_of_ble_eq_true rfl) dX0_clear_11 (fun H locs hP hD hS => ?_)
  have hP : va_P (dC, dI) vwCl [(b0, .inr (0, [.ref e0, .ref e1, .ref e2, .ref e3, .ref e4, .ref e5, .int 0, .int 0])), (e5, .inl (cC, 64, .inl f2_1))] H := hP
  have hD : va_D A [(b0, .inr (0, [.ref e0, .ref e1, .ref e2, .ref e3, .ref e4, .ref e5, .int 0, .int 0])), (e5, .inl (cC, 64, .inl f2_1))] := hD
  refine lv_aload_n hx hb dX0_clear_14 rfl (lv_at hl 0 rfl) ?_
  refine lv_iconst (v := 0) hx hb dX0_clear_15 (by decide) ?_
  refine va_put (D := (dC, dI)) (ci := 0) (v := .int 0) (ty := .int) (C := RX0) (T := TX0) (N := 8) hx hb hT iX0 tyX0 tyX0_ok nmX0 hown hK hP hD hS 0 rfl rfl 7 (by decide) (hT _ w116) (fun _ h9 => h9) rfl (by decide +kernel) rfl rfl (Nat.le_of_ble_eq_true rfl) dX0_clear_16 (fun H locs hP hD hS => ?_)
  have hP : va_P (dC, dI) vwCl [(b0, .inr (0, [.ref e0, .ref e1, .ref e2, .ref e3, .ref e4, .ref e5, .int 0, .int 0])), (e5, .inl (cC, 64, .inl f2_1))] H := hP
  have hD : va_D A [(b0, .inr (0, [.ref e0, .ref e1, .ref e2, .ref e3, .ref e4, .ref e5, .int 0, .int 0])), (e5, .inl (cC, 64, .inl f2_1))] := hD
  refine W.widen (k := 0) (n := 0) (Nat.le_of_ble_eq_true rfl) (Nat.le_of_ble_eq_true rfl) ?_
  have hP9 := hP.sub (ws' := [(b0, .inr (0, [.ref e0, .ref e1, .ref e2, .ref e3, .ref e4, .ref e5, .int 0, .int 0])), (e5, .inl (cC, 64, .inl f2_1))]) [0, 1] rfl
  have hD9 := hD.sub (ws' := [(b0, .inr (0, [.ref e0, .ref e1, .ref e2, .ref e3, .ref e4, .ref e5, .int 0, .int 0])), (e5, .inl (cC, 64, .inl f2_1))]) [0, 1] (by decide) rfl
  have hK9 := hK.sub (tys' := [(cC, .int)]) [0] rfl
  exact W.vret hx hb hr (fun t ht hW => ⟨⟨(), rfl, trivial, f2_1, by rw [ht]; exact hP9, va_K.moved hW.alike hK9, hD9⟩, hS.F ht⟩) hS.2.2 dX0_clear_19

set_option maxHeartbeats 4000000 in
set_option maxRecDepth 100000 in
theorem c_nclear (l : Launch) (dC : Nat → ClassId) (dI : Nat → Nat → Nat) (n0 : Nat) (l0 : Nat) (l1 : Nat) (sz : Nat) : Met l yX3_clear (wT yX3_clear cX3_clear 1 none) ({ frames := 0, cells := 0, slots := 0, locals := 0 }) (pcW dC dI [.ref n0] sz [(n0, .inr (3, [.ref l0, .ref l1, .int 0, .int 0]))] []) (va_Qv (fun _ : Unit => True) (fun _ t => pB dC dI (va_A [(n0, .inr (3, [.ref l0, .ref l1, .int 0, .int 0]))] sz) [(n0, .inr (3, [.ref l0, .ref l1, .int 0, .int 0]))] [] t) (va_A [(n0, .inr (3, [.ref l0, .ref l1, .int 0, .int 0]))] sz)) 0 0 (va_A [(n0, .inr (3, [.ref l0, .ref l1, .int 0, .int 0]))] sz) := by
  refine Met.ofW (cc := cX3_clear) (maxL := 1) (ret := none) (by decide) rfl ?_
  intro p e s m args below meth c s₁ B hml hv
  obtain ⟨rfl, hsz, hP, hK, hD0⟩ := hv
  have hx := B.exec
  have hb := B.bytes
  have hr := B.returns
  have hT : ∀ w ∈ TB, w.before [.ref n0].toArray s = true := fun w h => atoms_spec (ws := wT yX3_clear cX3_clear 1 none) B.pre w (List.mem_cons_of_mem _ h)
  have hown : s.vm.findClass RX3 = some m.cls := findClass_of_methodNamed B.named
  have hlocks := B.notSynchronized
  subst hsz
  have hD := hD0.self (sz := s.heap.size)
  generalize hAe : va_A [(n0, .inr (3, [.ref l0, .ref l1, .int 0, .int 0]))] s.heap.size = A at hD ⊢
  have hA : ∀ q : Nat, s.heap.size ≤ q → A q := fun q h => by rw [← hAe]; exact Or.inr h
  have hS : va_S A s.heap s.heap [] := va_S.rf
  have hP : va_P (dC, dI) vwCl [(n0, .inr (3, [.ref l0, .ref l1, .int 0, .int 0]))] s.heap := hP
  have hl := lv_entry ([.ref n0]) (n := 1) (Nat.le_of_ble_eq_true rfl)
  rw [lg_entry_eq]
  generalize (lg_sl ([.ref n0]) ++ List.replicate (1 - (lg_sl ([.ref n0])).length) Slot.unset).toArray = ls at hl ⊢
  have hl : lv_has ls 1 [(0, .ref n0)] := hl
  refine lv_aload_n hx hb dX3_clear_0 rfl (lv_at hl 0 rfl) ?_
  refine lv_iconst (v := 0) hx hb dX3_clear_1 (by decide) ?_
  refine va_put (D := (dC, dI)) (ci := 3) (v := .int 0) (ty := .int) (C := RX3) (T := TX3) (N := 4) hx hb hT iX3 tyX3 tyX3_ok nmX3 hown hK hP hD hS 0 rfl rfl 2 (by decide) (hT _ w62) (fun _ h9 => h9) rfl (by decide +kernel) rfl rfl (Nat.le_of_ble_eq_true rfl) dX3_clear_2 (fun H locs hP hD hS => ?_)
  have hP : va_P (dC, dI) vwCl [(n0, .inr (3, [.ref l0, .ref l1, .int 0, .int 0]))] H := hP
  have hD : va_D A [(n0, .inr (3, [.ref l0, .ref l1, .int 0, .int 0]))] := hD
  refine lv_aload_n hx hb dX3_clear_5 rfl (lv_at hl 0 rfl) ?_
  refine lv_iconst (v := 0) hx hb dX3_clear_6 (by decide) ?_
  refine va_put (D := (dC, dI)) (ci := 3) (v := .int 0) (ty := .int) (C := RX3) (T := TX3) (N := 4) hx hb hT iX3 tyX3 tyX3_ok nmX3 hown hK hP hD hS 0 rfl rfl 3 (by decide) (hT _ w65) (fun _ h9 => h9) rfl (by decide +kernel) rfl rfl (Nat.le_of_ble_eq_true rfl) dX3_clear_7 (fun H locs hP hD hS => ?_)
  have hP : va_P (dC, dI) vwCl [(n0, .inr (3, [.ref l0, .ref l1, .int 0, .int 0]))] H := hP
  have hD : va_D A [(n0, .inr (3, [.ref l0, .ref l1, .int 0, .int 0]))] := hD
  refine W.widen (k := 0) (n := 0) (Nat.le_of_ble_eq_true rfl) (Nat.le_of_ble_eq_true rfl) ?_
  have hP9 := hP.sub (ws' := [(n0, .inr (3, [.ref l0, .ref l1, .int 0, .int 0]))]) [0] rfl
  have hD9 := hD.sub (ws' := [(n0, .inr (3, [.ref l0, .ref l1, .int 0, .int 0]))]) [0] (by decide) rfl
  have hK9 := hK.sub (tys' := []) [] rfl
  exact W.vret hx hb hr (fun t ht hW => ⟨⟨(), rfl, trivial, by rw [ht]; exact hP9, va_K.moved hW.alike hK9, hD9⟩, hS.F ht⟩) hS.2.2 dX3_clear_10

set_option maxHeartbeats 4000000 in
set_option maxRecDepth 100000 in
theorem c_next (l : Launch) (dC : Nat → ClassId) (dI : Nat → Nat → Nat) (a1 : Nat) (rn : Nat) (rb : Nat) (tb : Nat) (sz : Nat) : Met l yX6_next (wT yX6_next cX6_next 1 none) ({ frames := 0, cells := 0, slots := 0, locals := 0 }) (pcW dC dI [.ref a1] sz [(a1, .inr (6, [.int 0, .int (-1), .ref rn, .ref rb, .ref tb, .int 0, .int 0, .int 0, .int 0, .int 0]))] []) (va_Qv (fun _ : Unit => True) (fun _ t => pB dC dI (va_A [(a1, .inr (6, [.int 0, .int (-1), .ref rn, .ref rb, .ref tb, .int 0, .int 0, .int 0, .int 0, .int 0]))] sz) [(a1, .inr (6, [.int 0, .int (-1), .ref rn, .ref rb, .ref tb, .int 0, .int 0, .int 0, .int 0, .int 0]))] [] t) (va_A [(a1, .inr (6, [.int 0, .int (-1), .ref rn, .ref rb, .ref tb, .int 0, .int 0, .int 0, .int 0, .int 0]))] sz)) 0 0 (va_A [(a1, .inr (6, [.int 0, .int (-1), .ref rn, .ref rb, .ref tb, .int 0, .int 0, .int 0, .int 0, .int 0]))] sz) := by
  refine Met.ofW (cc := cX6_next) (maxL := 1) (ret := none) (by decide) rfl ?_
  intro p e s m args below meth c s₁ B hml hv
  obtain ⟨rfl, hsz, hP, hK, hD0⟩ := hv
  have hx := B.exec
  have hb := B.bytes
  have hr := B.returns
  have hT : ∀ w ∈ TB, w.before [.ref a1].toArray s = true := fun w h => atoms_spec (ws := wT yX6_next cX6_next 1 none) B.pre w (List.mem_cons_of_mem _ h)
  have hown : s.vm.findClass RX6 = some m.cls := findClass_of_methodNamed B.named
  have hlocks := B.notSynchronized
  subst hsz
  have hD := hD0.self (sz := s.heap.size)
  generalize hAe : va_A [(a1, .inr (6, [.int 0, .int (-1), .ref rn, .ref rb, .ref tb, .int 0, .int 0, .int 0, .int 0, .int 0]))] s.heap.size = A at hD ⊢
  have hA : ∀ q : Nat, s.heap.size ≤ q → A q := fun q h => by rw [← hAe]; exact Or.inr h
  have hS : va_S A s.heap s.heap [] := va_S.rf
  have hP : va_P (dC, dI) vwCl [(a1, .inr (6, [.int 0, .int (-1), .ref rn, .ref rb, .ref tb, .int 0, .int 0, .int 0, .int 0, .int 0]))] s.heap := hP
  have hl := lv_entry ([.ref a1]) (n := 1) (Nat.le_of_ble_eq_true rfl)
  rw [lg_entry_eq]
  generalize (lg_sl ([.ref a1]) ++ List.replicate (1 - (lg_sl ([.ref a1])).length) Slot.unset).toArray = ls at hl ⊢
  have hl : lv_has ls 1 [(0, .ref a1)] := hl
  refine lv_aload_n hx hb dX6_next_0 rfl (lv_at hl 0 rfl) ?_
  refine lv_aload_n hx hb dX6_next_1 rfl (lv_at hl 0 rfl) ?_
  refine va_get (D := (dC, dI)) (ci := 6) (v := .int 0) (C := RX6) (T := TX6) (N := 10) hx hb hT iX6 hown hK hP 0 rfl rfl 9 (by decide) (hT _ w152) (fun _ h9 => h9) rfl dX6_next_2 ?_
  refine va_put (D := (dC, dI)) (ci := 6) (v := .int 0) (ty := .int) (C := RX6) (T := TX6) (N := 10) hx hb hT iX6 tyX6 tyX6_ok nmX6 hown hK hP hD hS 0 rfl rfl 8 (by decide) (hT _ w151) (fun _ h9 => h9) rfl (by decide +kernel) rfl rfl (Nat.le_of_ble_eq_true rfl) dX6_next_5 (fun H locs hP hD hS => ?_)
  have hP : va_P (dC, dI) vwCl [(a1, .inr (6, [.int 0, .int (-1), .ref rn, .ref rb, .ref tb, .int 0, .int 0, .int 0, .int 0, .int 0]))] H := hP
  have hD : va_D A [(a1, .inr (6, [.int 0, .int (-1), .ref rn, .ref rb, .ref tb, .int 0, .int 0, .int 0, .int 0, .int 0]))] := hD
  refine lv_aload_n hx hb dX6_next_8 rfl (lv_at hl 0 rfl) ?_
  refine va_get (D := (dC, dI)) (ci := 6) (v := .int 0) (C := RX6) (T := TX6) (N := 10) hx hb hT iX6 hown hK hP 0 rfl rfl 8 (by decide) (hT _ w151) (fun _ h9 => h9) rfl dX6_next_9 ?_
  refine lv_aload_n hx hb dX6_next_12 rfl (lv_at hl 0 rfl) ?_
  refine va_get (D := (dC, dI)) (ci := 6) (v := .int 0) (C := RX6) (T := TX6) (N := 10) hx hb hT iX6 hown hK hP 0 rfl rfl 5 (by decide) (hT _ w148) (fun _ h9 => h9) rfl dX6_next_13 ?_
  refine lv_icmp_ge (tgt := 46) hx hb dX6_next_16 (by decide) (fun _ => ?_) (fun h => absurd (by decide) h)
  refine lv_aload_n hx hb dX6_next_46 rfl (lv_at hl 0 rfl) ?_
  refine lv_aload_n hx hb dX6_next_47 rfl (lv_at hl 0 rfl) ?_
  refine va_get (D := (dC, dI)) (ci := 6) (v := .int 0) (C := RX6) (T := TX6) (N := 10) hx hb hT iX6 hown hK hP 0 rfl rfl 8 (by decide) (hT _ w151) (fun _ h9 => h9) rfl dX6_next_48 ?_
  refine va_put (D := (dC, dI)) (ci := 6) (v := .int 0) (ty := .int) (C := RX6) (T := TX6) (N := 10) hx hb hT iX6 tyX6 tyX6_ok nmX6 hown hK hP hD hS 0 rfl rfl 9 (by decide) (hT _ w152) (fun _ h9 => h9) rfl (by decide +kernel) rfl rfl (Nat.le_of_ble_eq_true rfl) dX6_next_51 (fun H locs hP hD hS => ?_)
  have hP : va_P (dC, dI) vwCl [(a1, .inr (6, [.int 0, .int (-1), .ref rn, .ref rb, .ref tb, .int 0, .int 0, .int 0, .int 0, .int 0]))] H := hP
  have hD : va_D A [(a1, .inr (6, [.int 0, .int (-1), .ref rn, .ref rb, .ref tb, .int 0, .int 0, .int 0, .int 0, .int 0]))] := hD
  refine lv_aload_n hx hb dX6_next_54 rfl (lv_at hl 0 rfl) ?_
  refine va_get (D := (dC, dI)) (ci := 6) (v := .int 0) (C := RX6) (T := TX6) (N := 10) hx hb hT iX6 hown hK hP 0 rfl rfl 8 (by decide) (hT _ w151) (fun _ h9 => h9) rfl dX6_next_55 ?_
  refine lv_aload_n hx hb dX6_next_58 rfl (lv_at hl 0 rfl) ?_
  refine va_get (D := (dC, dI)) (ci := 6) (v := .int 0) (C := RX6) (T := TX6) (N := 10) hx hb hT iX6 hown hK hP 0 rfl rfl 5 (by decide) (hT _ w148) (fun _ h9 => h9) rfl dX6_next_59 ?_
  refine lv_icmp_lt (tgt := 73) hx hb dX6_next_62 (by decide) (fun h => absurd h (by decide)) (fun _ => ?_)
  refine lv_aload_n hx hb dX6_next_65 rfl (lv_at hl 0 rfl) ?_
  refine lv_iconst (v := 0) hx hb dX6_next_66 (by decide) ?_
  refine va_put (D := (dC, dI)) (ci := 6) (v := .int 0) (ty := .int) (C := RX6) (T := TX6) (N := 10) hx hb hT iX6 tyX6 tyX6_ok nmX6 hown hK hP hD hS 0 rfl rfl 7 (by decide) (hT _ w150) (fun _ h9 => h9) rfl (by decide +kernel) rfl rfl (Nat.le_of_ble_eq_true rfl) dX6_next_67 (fun H locs hP hD hS => ?_)
  have hP : va_P (dC, dI) vwCl [(a1, .inr (6, [.int 0, .int (-1), .ref rn, .ref rb, .ref tb, .int 0, .int 0, .int 0, .int 0, .int 0]))] H := hP
  have hD : va_D A [(a1, .inr (6, [.int 0, .int (-1), .ref rn, .ref rb, .ref tb, .int 0, .int 0, .int 0, .int 0, .int 0]))] := hD
  refine lv_goto (tgt := 230) hx hb dX6_next_70 (by decide) ?_
  refine W.widen (k := 0) (n := 0) (Nat.le_of_ble_eq_true rfl) (Nat.le_of_ble_eq_true rfl) ?_
  have hP9 := hP.sub (ws' := [(a1, .inr (6, [.int 0, .int (-1), .ref rn, .ref rb, .ref tb, .int 0, .int 0, .int 0, .int 0, .int 0]))]) [0] rfl
  have hD9 := hD.sub (ws' := [(a1, .inr (6, [.int 0, .int (-1), .ref rn, .ref rb, .ref tb, .int 0, .int 0, .int 0, .int 0, .int 0]))]) [0] (by decide) rfl
  have hK9 := hK.sub (tys' := []) [] rfl
  exact W.vret hx hb hr (fun t ht hW => ⟨⟨(), rfl, trivial, by rw [ht]; exact hP9, va_K.moved hW.alike hK9, hD9⟩, hS.F ht⟩) hS.2.2 dX6_next_230

set_option maxHeartbeats 4000000 in
set_option maxRecDepth 100000 in
theorem c_read (l : Launch) (dC : Nat → ClassId) (dI : Nat → Nat → Nat) (a1 : Nat) (rn : Nat) (rb : Nat) (tb : Nat) (s0 : Nat) (s1 : Nat) (r0 : Nat) (r1 : Nat) (r2 : Nat) (r3 : Nat) (r4 : Nat) (r5 : Nat) (cR : ClassId) (fr : Nat → Int32) (cB : ClassId) (fb : Nat → Int32) (sz : Nat) : Met l yX6_read (wT yX6_read cX6_read 3 none) ({ frames := 2, cells := 0, slots := 0, locals := 43 }) (pcW dC dI [.ref a1, .int 0] sz [(a1, .inr (6, [.int 0, .int (-1), .ref rn, .ref rb, .ref tb, .int 0, .int 0, .int 0, .int 0, .int 0])), (rn, .inr (3, [.ref s0, .ref s1, .int 0, .int 0])), (rb, .inr (0, [.ref r0, .ref r1, .ref r2, .ref r3, .ref r4, .ref r5, .int 0, .int 0])), (r5, .inl (cR, 64, .inl fr)), (tb, .inl (cB, 900, .inl fb))] [(cR, .int), (cB, .byte)]) (va_Qv (fun _ : Unit => True) (fun _ t => ∃ fr2 : Nat → Int32, pB dC dI (va_A [(a1, .inr (6, [.int 0, .int (-1), .ref rn, .ref rb, .ref tb, .int 0, .int 0, .int 0, .int 0, .int 0])), (rn, .inr (3, [.ref s0, .ref s1, .int 0, .int 0])), (rb, .inr (0, [.ref r0, .ref r1, .ref r2, .ref r3, .ref r4, .ref r5, .int 0, .int 0])), (r5, .inl (cR, 64, .inl fr)), (tb, .inl (cB, 900, .inl fb))] sz) [(a1, .inr (6, [.int 0, .int (-1), .ref rn, .ref rb, .ref tb, .int 0, .int 0, .int 0, .int 0, .int 0])), (rn, .inr (3, [.ref s0, .ref s1, .int 0, .int 0])), (rb, .inr (0, [.ref r0, .ref r1, .ref r2, .ref r3, .ref r4, .ref r5, .int 0, .int 0])), (r5, .inl (cR, 64, .inl fr2))] [(cR, .int)] t) (va_A [(a1, .inr (6, [.int 0, .int (-1), .ref rn, .ref rb, .ref tb, .int 0, .int 0, .int 0, .int 0, .int 0])), (rn, .inr (3, [.ref s0, .ref s1, .int 0, .int 0])), (rb, .inr (0, [.ref r0, .ref r1, .ref r2, .ref r3, .ref r4, .ref r5, .int 0, .int 0])), (r5, .inl (cR, 64, .inl fr)), (tb, .inl (cB, 900, .inl fb))] sz)) 0 0 (va_A [(a1, .inr (6, [.int 0, .int (-1), .ref rn, .ref rb, .ref tb, .int 0, .int 0, .int 0, .int 0, .int 0])), (rn, .inr (3, [.ref s0, .ref s1, .int 0, .int 0])), (rb, .inr (0, [.ref r0, .ref r1, .ref r2, .ref r3, .ref r4, .ref r5, .int 0, .int 0])), (r5, .inl (cR, 64, .inl fr)), (tb, .inl (cB, 900, .inl fb))] sz) := by
  refine Met.ofW (cc := cX6_read) (maxL := 3) (ret := none) (by decide) rfl ?_
  intro p e s m args below meth c s₁ B hml hv
  obtain ⟨rfl, hsz, hP, hK, hD0⟩ := hv
  have hx := B.exec
  have hb := B.bytes
  have hr := B.returns
  have hT : ∀ w ∈ TB, w.before [.ref a1, .int 0].toArray s = true := fun w h => atoms_spec (ws := wT yX6_read cX6_read 3 none) B.pre w (List.mem_cons_of_mem _ h)
  have hown : s.vm.findClass RX6 = some m.cls := findClass_of_methodNamed B.named
  have hlocks := B.notSynchronized
  subst hsz
  have hD := hD0.self (sz := s.heap.size)
  generalize hAe : va_A [(a1, .inr (6, [.int 0, .int (-1), .ref rn, .ref rb, .ref tb, .int 0, .int 0, .int 0, .int 0, .int 0])), (rn, .inr (3, [.ref s0, .ref s1, .int 0, .int 0])), (rb, .inr (0, [.ref r0, .ref r1, .ref r2, .ref r3, .ref r4, .ref r5, .int 0, .int 0])), (r5, .inl (cR, 64, .inl fr)), (tb, .inl (cB, 900, .inl fb))] s.heap.size = A at hD ⊢
  have hA : ∀ q : Nat, s.heap.size ≤ q → A q := fun q h => by rw [← hAe]; exact Or.inr h
  have hS : va_S A s.heap s.heap [] := va_S.rf
  have hP : va_P (dC, dI) vwCl [(a1, .inr (6, [.int 0, .int (-1), .ref rn, .ref rb, .ref tb, .int 0, .int 0, .int 0, .int 0, .int 0])), (rn, .inr (3, [.ref s0, .ref s1, .int 0, .int 0])), (rb, .inr (0, [.ref r0, .ref r1, .ref r2, .ref r3, .ref r4, .ref r5, .int 0, .int 0])), (r5, .inl (cR, 64, .inl fr)), (tb, .inl (cB, 900, .inl fb))] s.heap := hP
  have hl := lv_entry ([.ref a1, .int 0]) (n := 3) (Nat.le_of_ble_eq_true rfl)
  rw [lg_entry_eq]
  generalize (lg_sl ([.ref a1, .int 0]) ++ List.replicate (3 - (lg_sl ([.ref a1, .int 0])).length) Slot.unset).toArray = ls at hl ⊢
  have hl : lv_has ls 3 [(0, .ref a1), (1, .int 0)] := hl
  refine lv_aload_n hx hb dX6_read_0 rfl (lv_at hl 0 rfl) ?_
  refine lv_iload_n hx hb dX6_read_1 rfl (lv_at hl 1 rfl) ?_
  refine lv_aload_n hx hb dX6_read_2 rfl (lv_at hl 0 rfl) ?_
  refine va_get (D := (dC, dI)) (ci := 6) (v := .ref tb) (C := RX6) (T := TX6) (N := 10) hx hb hT iX6 hown hK hP 0 rfl rfl 4 (by decide) (hT _ w147) (fun _ h9 => h9) rfl dX6_read_3 ?_
  refine va_alen (v := 900) hx hb hK hP 4 1 rfl rfl rfl dX6_read_6 ?_
  refine va_mmin hx hb (hml.trans hl.1.symm) hown (hT _ w409) (hT _ w410) (hT _ w15) (hT _ w411) (Nat.le_of_ble_eq_true rfl) (Nat.le_of_ble_eq_true rfl) (Nat.le_of_ble_eq_true rfl) (Nat.le_of_ble_eq_true rfl) dX6_read_7 ?_
  refine lv_topi (fun z_1 ez_1 => ?_)
  obtain rfl : z_1 = 0 := ez_1.trans (by decide)
  refine va_put (D := (dC, dI)) (ci := 6) (v := .int 0) (ty := .int) (C := RX6) (T := TX6) (N := 10) hx hb hT iX6 tyX6 tyX6_ok nmX6 hown hK hP hD hS 0 rfl rfl 5 (by decide) (hT _ w148) (fun _ h9 => h9) rfl (by decide +kernel) rfl rfl (Nat.le_of_ble_eq_true rfl) dX6_read_10 (fun H locs hP hD hS => ?_)
  have hP : va_P (dC, dI) vwCl [(a1, .inr (6, [.int 0, .int (-1), .ref rn, .ref rb, .ref tb, .int 0, .int 0, .int 0, .int 0, .int 0])), (rn, .inr (3, [.ref s0, .ref s1, .int 0, .int 0])), (rb, .inr (0, [.ref r0, .ref r1, .ref r2, .ref r3, .ref r4, .ref r5, .int 0, .int 0])), (r5, .inl (cR, 64, .inl fr)), (tb, .inl (cB, 900, .inl fb))] H := hP
  have hD : va_D A [(a1, .inr (6, [.int 0, .int (-1), .ref rn, .ref rb, .ref tb, .int 0, .int 0, .int 0, .int 0, .int 0])), (rn, .inr (3, [.ref s0, .ref s1, .int 0, .int 0])), (rb, .inr (0, [.ref r0, .ref r1, .ref r2, .ref r3, .ref r4, .ref r5, .int 0, .int 0])), (r5, .inl (cR, 64, .inl fr)), (tb, .inl (cB, 900, .inl fb))] := hD
  refine lv_aload_n hx hb dX6_read_13 rfl (lv_at hl 0 rfl) ?_
  refine va_get (D := (dC, dI)) (ci := 6) (v := .ref rn) (C := RX6) (T := TX6) (N := 10) hx hb hT iX6 hown hK hP 0 rfl rfl 2 (by decide) (hT _ w143) (fun _ h9 => h9) rfl dX6_read_14 ?_
  have hPc := hP.sub (ws' := [(rn, .inr (3, [.ref s0, .ref s1, .int 0, .int 0]))]) [1] rfl
  have hDc := hD.sub (ws' := [(rn, .inr (3, [.ref s0, .ref s1, .int 0, .int 0]))]) [1] (by decide) rfl
  have hKc := hK.sub (tys' := []) [] rfl
  have hFc := va_free (wc := [(rn, .inr (3, [.ref s0, .ref s1, .int 0, .int 0]))]) hD hS hA [1] rfl
  refine va_callv (va_runV (As := []) (rest := []) ⟨hx, hb, hml, hown, hT⟩ (c_nclear l dC dI rn s0 s1 H.size) (cwV 0 hT (gV w412 w413 w414 w4 w415) rfl rfl rfl (by decide +kernel) ⟨(Nat.le_of_ble_eq_true rfl), (Nat.le_of_ble_eq_true rfl)⟩) ⟨pcW.blind, va_recv hKc hPc (ci := 3) (q0 := 0) rfl rfl, pcW.pre hPc hKc hDc⟩ rfl rfl hl.1 rfl (lv_room (Nat.le_of_ble_eq_true rfl)) dX6_read_17 ⟨(Nat.le_of_ble_eq_true rfl), (Nat.le_of_ble_eq_true rfl)⟩) hS (fun q _ h => hFc q h) hFc (fun u t H1 locs ht hvm hw hB hz1 hk1 hS => ?_)
  obtain ⟨hP1, hK1, hD1⟩ := hB
  rw [ht] at hP1
  have hK1 := va_K.moved hvm.symm hK1
  obtain ⟨hP, hD⟩ := va_join (wr := [(a1, .inr (6, [.int 0, .int (-1), .ref rn, .ref rb, .ref tb, .int 0, .int 0, .int 0, .int 0, .int 0])), (rb, .inr (0, [.ref r0, .ref r1, .ref r2, .ref r3, .ref r4, .ref r5, .int 0, .int 0])), (r5, .inl (cR, 64, .inl fr)), (tb, .inl (cB, 900, .inl fb))]) (w1 := [(rn, .inr (3, [.ref s0, .ref s1, .int 0, .int 0]))]) hP hD [1] [0, 2, 3, 4] rfl rfl (by decide) (by decide) hk1 hFc hP1 hD1
  have hK := hK.app hK1
  generalize H1 = H at hP hS ⊢
  have hP : va_P (dC, dI) vwCl [(a1, .inr (6, [.int 0, .int (-1), .ref rn, .ref rb, .ref tb, .int 0, .int 0, .int 0, .int 0, .int 0])), (rb, .inr (0, [.ref r0, .ref r1, .ref r2, .ref r3, .ref r4, .ref r5, .int 0, .int 0])), (r5, .inl (cR, 64, .inl fr)), (tb, .inl (cB, 900, .inl fb)), (rn, .inr (3, [.ref s0, .ref s1, .int 0, .int 0]))] H := hP
  have hD : va_D A [(a1, .inr (6, [.int 0, .int (-1), .ref rn, .ref rb, .ref tb, .int 0, .int 0, .int 0, .int 0, .int 0])), (rb, .inr (0, [.ref r0, .ref r1, .ref r2, .ref r3, .ref r4, .ref r5, .int 0, .int 0])), (r5, .inl (cR, 64, .inl fr)), (tb, .inl (cB, 900, .inl fb)), (rn, .inr (3, [.ref s0, .ref s1, .int 0, .int 0]))] := hD
  have hK : va_K (dC, dI) vwCl [(cR, .int), (cB, .byte)] s := hK
  refine W.widen (k := 0) (n := 0) (Nat.le_of_ble_eq_true rfl) (Nat.le_of_ble_eq_true rfl) ?_
  refine lv_aload_n hx hb dX6_read_20 rfl (lv_at hl 0 rfl) ?_
  refine va_get (D := (dC, dI)) (ci := 6) (v := .ref rb) (C := RX6) (T := TX6) (N := 10) hx hb hT iX6 hown hK hP 0 rfl rfl 3 (by decide) (hT _ w145) (fun _ h9 => h9) rfl dX6_read_21 ?_
  have hPc := hP.sub (ws' := [(rb, .inr (0, [.ref r0, .ref r1, .ref r2, .ref r3, .ref r4, .ref r5, .int 0, .int 0])), (r5, .inl (cR, 64, .inl fr))]) [1, 2] rfl
  have hDc := hD.sub (ws' := [(rb, .inr (0, [.ref r0, .ref r1, .ref r2, .ref r3, .ref r4, .ref r5, .int 0, .int 0])), (r5, .inl (cR, 64, .inl fr))]) [1, 2] (by decide) rfl
  have hKc := hK.sub (tys' := [(cR, .int)]) [0] rfl
  have hFc := va_free (wc := [(rb, .inr (0, [.ref r0, .ref r1, .ref r2, .ref r3, .ref r4, .ref r5, .int 0, .int 0])), (r5, .inl (cR, 64, .inl fr))]) hD hS hA [1, 2] rfl
  refine va_callv (va_runV (As := []) (rest := []) ⟨hx, hb, hml, hown, hT⟩ (c_bclear l dC dI rb r0 r1 r2 r3 r4 r5 cR fr H.size) (cwV 0 hT (gV w416 w417 w418 w5 w419) rfl rfl rfl (by decide +kernel) ⟨(Nat.le_of_ble_eq_true rfl), (Nat.le_of_ble_eq_true rfl)⟩) ⟨pcW.blind, va_recv hKc hPc (ci := 0) (q0 := 0) rfl rfl, pcW.pre hPc hKc hDc⟩ rfl rfl hl.1 rfl (lv_room (Nat.le_of_ble_eq_true rfl)) dX6_read_24 ⟨(Nat.le_of_ble_eq_true rfl), (Nat.le_of_ble_eq_true rfl)⟩) hS (fun q _ h => hFc q h) hFc (fun u t H1 locs ht hvm hw hB hz1 hk1 hS => ?_)
  obtain ⟨fc2_2, hP1, hK1, hD1⟩ := hB
  rw [ht] at hP1
  have hK1 := va_K.moved hvm.symm hK1
  obtain ⟨hP, hD⟩ := va_join (wr := [(a1, .inr (6, [.int 0, .int (-1), .ref rn, .ref rb, .ref tb, .int 0, .int 0, .int 0, .int 0, .int 0])), (tb, .inl (cB, 900, .inl fb)), (rn, .inr (3, [.ref s0, .ref s1, .int 0, .int 0]))]) (w1 := [(rb, .inr (0, [.ref r0, .ref r1, .ref r2, .ref r3, .ref r4, .ref r5, .int 0, .int 0])), (r5, .inl (cR, 64, .inl fc2_2))]) hP hD [1, 2] [0, 3, 4] rfl rfl (by decide) (by decide) hk1 hFc hP1 hD1
  have hK := hK.app hK1
  generalize H1 = H at hP hS ⊢
  have hP : va_P (dC, dI) vwCl [(a1, .inr (6, [.int 0, .int (-1), .ref rn, .ref rb, .ref tb, .int 0, .int 0, .int 0, .int 0, .int 0])), (tb, .inl (cB, 900, .inl fb)), (rn, .inr (3, [.ref s0, .ref s1, .int 0, .int 0])), (rb, .inr (0, [.ref r0, .ref r1, .ref r2, .ref r3, .ref r4, .ref r5, .int 0, .int 0])), (r5, .inl (cR, 64, .inl fc2_2))] H := hP
  have hD : va_D A [(a1, .inr (6, [.int 0, .int (-1), .ref rn, .ref rb, .ref tb, .int 0, .int 0, .int 0, .int 0, .int 0])), (tb, .inl (cB, 900, .inl fb)), (rn, .inr (3, [.ref s0, .ref s1, .int 0, .int 0])), (rb, .inr (0, [.ref r0, .ref r1, .ref r2, .ref r3, .ref r4, .ref r5, .int 0, .int 0])), (r5, .inl (cR, 64, .inl fc2_2))] := hD
  have hK : va_K (dC, dI) vwCl [(cR, .int), (cB, .byte), (cR, .int)] s := hK
  refine W.widen (k := 0) (n := 0) (Nat.le_of_ble_eq_true rfl) (Nat.le_of_ble_eq_true rfl) ?_
  refine lv_aload_n hx hb dX6_read_27 rfl (lv_at hl 0 rfl) ?_
  refine lv_iconst (v := 0) hx hb dX6_read_28 (by decide) ?_
  refine va_put (D := (dC, dI)) (ci := 6) (v := .int 0) (ty := .boolean) (C := RX6) (T := TX6) (N := 10) hx hb hT iX6 tyX6 tyX6_ok nmX6 hown hK hP hD hS 0 rfl rfl 6 (by decide) (hT _ w149) (fun _ h9 => h9) rfl (by decide +kernel) rfl rfl (Nat.le_of_ble_eq_true rfl) dX6_read_29 (fun H locs hP hD hS => ?_)
  have hP : va_P (dC, dI) vwCl [(a1, .inr (6, [.int 0, .int (-1), .ref rn, .ref rb, .ref tb, .int 0, .int 0, .int 0, .int 0, .int 0])), (tb, .inl (cB, 900, .inl fb)), (rn, .inr (3, [.ref s0, .ref s1, .int 0, .int 0])), (rb, .inr (0, [.ref r0, .ref r1, .ref r2, .ref r3, .ref r4, .ref r5, .int 0, .int 0])), (r5, .inl (cR, 64, .inl fc2_2))] H := hP
  have hD : va_D A [(a1, .inr (6, [.int 0, .int (-1), .ref rn, .ref rb, .ref tb, .int 0, .int 0, .int 0, .int 0, .int 0])), (tb, .inl (cB, 900, .inl fb)), (rn, .inr (3, [.ref s0, .ref s1, .int 0, .int 0])), (rb, .inr (0, [.ref r0, .ref r1, .ref r2, .ref r3, .ref r4, .ref r5, .int 0, .int 0])), (r5, .inl (cR, 64, .inl fc2_2))] := hD
  refine lv_aload_n hx hb dX6_read_32 rfl (lv_at hl 0 rfl) ?_
  refine lv_iconst (v := 0) hx hb dX6_read_33 (by decide) ?_
  refine va_put (D := (dC, dI)) (ci := 6) (v := .int 0) (ty := .int) (C := RX6) (T := TX6) (N := 10) hx hb hT iX6 tyX6 tyX6_ok nmX6 hown hK hP hD hS 0 rfl rfl 0 (by decide) (hT _ w139) (fun _ h9 => h9) rfl (by decide +kernel) rfl rfl (Nat.le_of_ble_eq_true rfl) dX6_read_34 (fun H locs hP hD hS => ?_)
  have hP : va_P (dC, dI) vwCl [(a1, .inr (6, [.int 0, .int (-1), .ref rn, .ref rb, .ref tb, .int 0, .int 0, .int 0, .int 0, .int 0])), (tb, .inl (cB, 900, .inl fb)), (rn, .inr (3, [.ref s0, .ref s1, .int 0, .int 0])), (rb, .inr (0, [.ref r0, .ref r1, .ref r2, .ref r3, .ref r4, .ref r5, .int 0, .int 0])), (r5, .inl (cR, 64, .inl fc2_2))] H := hP
  have hD : va_D A [(a1, .inr (6, [.int 0, .int (-1), .ref rn, .ref rb, .ref tb, .int 0, .int 0, .int 0, .int 0, .int 0])), (tb, .inl (cB, 900, .inl fb)), (rn, .inr (3, [.ref s0, .ref s1, .int 0, .int 0])), (rb, .inr (0, [.ref r0, .ref r1, .ref r2, .ref r3, .ref r4, .ref r5, .int 0, .int 0])), (r5, .inl (cR, 64, .inl fc2_2))] := hD
  refine lv_aload_n hx hb dX6_read_37 rfl (lv_at hl 0 rfl) ?_
  refine lv_iconst (v := (-1)) hx hb dX6_read_38 (by decide) ?_
  refine va_put (D := (dC, dI)) (ci := 6) (v := .int (-1)) (ty := .int) (C := RX6) (T := TX6) (N := 10) hx hb hT iX6 tyX6 tyX6_ok nmX6 hown hK hP hD hS 0 rfl rfl 1 (by decide) (hT _ w141) (fun _ h9 => h9) rfl (by decide +kernel) rfl rfl (Nat.le_of_ble_eq_true rfl) dX6_read_39 (fun H locs hP hD hS => ?_)
  have hP : va_P (dC, dI) vwCl [(a1, .inr (6, [.int 0, .int (-1), .ref rn, .ref rb, .ref tb, .int 0, .int 0, .int 0, .int 0, .int 0])), (tb, .inl (cB, 900, .inl fb)), (rn, .inr (3, [.ref s0, .ref s1, .int 0, .int 0])), (rb, .inr (0, [.ref r0, .ref r1, .ref r2, .ref r3, .ref r4, .ref r5, .int 0, .int 0])), (r5, .inl (cR, 64, .inl fc2_2))] H := hP
  have hD : va_D A [(a1, .inr (6, [.int 0, .int (-1), .ref rn, .ref rb, .ref tb, .int 0, .int 0, .int 0, .int 0, .int 0])), (tb, .inl (cB, 900, .inl fb)), (rn, .inr (3, [.ref s0, .ref s1, .int 0, .int 0])), (rb, .inr (0, [.ref r0, .ref r1, .ref r2, .ref r3, .ref r4, .ref r5, .int 0, .int 0])), (r5, .inl (cR, 64, .inl fc2_2))] := hD
  refine lv_aload_n hx hb dX6_read_42 rfl (lv_at hl 0 rfl) ?_
  refine lv_iconst (v := 0) hx hb dX6_read_43 (by decide) ?_
  refine va_put (D := (dC, dI)) (ci := 6) (v := .int 0) (ty := .int) (C := RX6) (T := TX6) (N := 10) hx hb hT iX6 tyX6 tyX6_ok nmX6 hown hK hP hD hS 0 rfl rfl 9 (by decide) (hT _ w152) (fun _ h9 => h9) rfl (by decide +kernel) rfl rfl (Nat.le_of_ble_eq_true rfl) dX6_read_44 (fun H locs hP hD hS => ?_)
  have hP : va_P (dC, dI) vwCl [(a1, .inr (6, [.int 0, .int (-1), .ref rn, .ref rb, .ref tb, .int 0, .int 0, .int 0, .int 0, .int 0])), (tb, .inl (cB, 900, .inl fb)), (rn, .inr (3, [.ref s0, .ref s1, .int 0, .int 0])), (rb, .inr (0, [.ref r0, .ref r1, .ref r2, .ref r3, .ref r4, .ref r5, .int 0, .int 0])), (r5, .inl (cR, 64, .inl fc2_2))] H := hP
  have hD : va_D A [(a1, .inr (6, [.int 0, .int (-1), .ref rn, .ref rb, .ref tb, .int 0, .int 0, .int 0, .int 0, .int 0])), (tb, .inl (cB, 900, .inl fb)), (rn, .inr (3, [.ref s0, .ref s1, .int 0, .int 0])), (rb, .inr (0, [.ref r0, .ref r1, .ref r2, .ref r3, .ref r4, .ref r5, .int 0, .int 0])), (r5, .inl (cR, 64, .inl fc2_2))] := hD
  refine lv_aload_n hx hb dX6_read_47 rfl (lv_at hl 0 rfl) ?_
  have hPc := hP.sub (ws' := [(a1, .inr (6, [.int 0, .int (-1), .ref rn, .ref rb, .ref tb, .int 0, .int 0, .int 0, .int 0, .int 0]))]) [0] rfl
  have hDc := hD.sub (ws' := [(a1, .inr (6, [.int 0, .int (-1), .ref rn, .ref rb, .ref tb, .int 0, .int 0, .int 0, .int 0, .int 0]))]) [0] (by decide) rfl
  have hKc := hK.sub (tys' := []) [] rfl
  have hFc := va_free (wc := [(a1, .inr (6, [.int 0, .int (-1), .ref rn, .ref rb, .ref tb, .int 0, .int 0, .int 0, .int 0, .int 0]))]) hD hS hA [0] rfl
  refine va_callv (va_runV (As := []) (rest := []) ⟨hx, hb, hml, hown, hT⟩ (c_next l dC dI a1 rn rb tb H.size) (cwV 0 hT (gV w420 w422 ws0 w3 w423) rfl rfl rfl (by decide +kernel) ⟨(Nat.le_of_ble_eq_true rfl), (Nat.le_of_ble_eq_true rfl)⟩) ⟨pcW.blind, va_recv hKc hPc (ci := 6) (q0 := 0) rfl rfl, pcW.pre hPc hKc hDc⟩ rfl rfl hl.1 rfl (lv_room (Nat.le_of_ble_eq_true rfl)) dX6_read_48 ⟨(Nat.le_of_ble_eq_true rfl), (Nat.le_of_ble_eq_true rfl)⟩) hS (fun q _ h => hFc q h) hFc (fun u t H1 locs ht hvm hw hB hz1 hk1 hS => ?_)
  obtain ⟨hP1, hK1, hD1⟩ := hB
  rw [ht] at hP1
  have hK1 := va_K.moved hvm.symm hK1
  obtain ⟨hP, hD⟩ := va_join (wr := [(tb, .inl (cB, 900, .inl fb)), (rn, .inr (3, [.ref s0, .ref s1, .int 0, .int 0])), (rb, .inr (0, [.ref r0, .ref r1, .ref r2, .ref r3, .ref r4, .ref r5, .int 0, .int 0])), (r5, .inl (cR, 64, .inl fc2_2))]) (w1 := [(a1, .inr (6, [.int 0, .int (-1), .ref rn, .ref rb, .ref tb, .int 0, .int 0, .int 0, .int 0, .int 0]))]) hP hD [0] [1, 2, 3, 4] rfl rfl (by decide) (by decide) hk1 hFc hP1 hD1
  have hK := hK.app hK1
  generalize H1 = H at hP hS ⊢
  have hP : va_P (dC, dI) vwCl [(tb, .inl (cB, 900, .inl fb)), (rn, .inr (3, [.ref s0, .ref s1, .int 0, .int 0])), (rb, .inr (0, [.ref r0, .ref r1, .ref r2, .ref r3, .ref r4, .ref r5, .int 0, .int 0])), (r5, .inl (cR, 64, .inl fc2_2)), (a1, .inr (6, [.int 0, .int (-1), .ref rn, .ref rb, .ref tb, .int 0, .int 0, .int 0, .int 0, .int 0]))] H := hP
  have hD : va_D A [(tb, .inl (cB, 900, .inl fb)), (rn, .inr (3, [.ref s0, .ref s1, .int 0, .int 0])), (rb, .inr (0, [.ref r0, .ref r1, .ref r2, .ref r3, .ref r4, .ref r5, .int 0, .int 0])), (r5, .inl (cR, 64, .inl fc2_2)), (a1, .inr (6, [.int 0, .int (-1), .ref rn, .ref rb, .ref tb, .int 0, .int 0, .int 0, .int 0, .int 0]))] := hD
  have hK : va_K (dC, dI) vwCl [(cR, .int), (cB, .byte), (cR, .int)] s := hK
  refine W.widen (k := 0) (n := 0) (Nat.le_of_ble_eq_true rfl) (Nat.le_of_ble_eq_true rfl) ?_
  refine lv_iconst (v := 0) hx hb dX6_read_51 (by decide) ?_
  refine lv_istore_n (lv' := [(2, .int 0), (0, .ref a1), (1, .int 0)]) hx hb dX6_read_52 rfl hl (by decide) rfl (fun ls hl => ?_)
  refine lv_iload_n hx hb dX6_read_53 rfl (lv_at hl 0 rfl) ?_
  refine lv_sipush (v := 900) hx hb dX6_read_54 (by decide) ?_
  refine lv_icmp_ge (tgt := 84) hx hb dX6_read_57 (by decide) (fun h => absurd h (by decide)) (fun _ => ?_)
  refine lv_aload_n hx hb dX6_read_60 rfl (lv_at hl 1 rfl) ?_
  refine va_get (D := (dC, dI)) (ci := 6) (v := .int 0) (C := RX6) (T := TX6) (N := 10) hx hb hT iX6 hown hK hP 4 rfl rfl 0 (by decide) (hT _ w139) (fun _ h9 => h9) rfl dX6_read_61 ?_
  refine lv_if_ne (tgt := 84) hx hb dX6_read_64 (by decide) (fun h => absurd (by decide) h) (fun _ => ?_)
  refine lv_aload_n hx hb dX6_read_67 rfl (lv_at hl 1 rfl) ?_
  refine va_get (D := (dC, dI)) (ci := 6) (v := .int 0) (C := RX6) (T := TX6) (N := 10) hx hb hT iX6 hown hK hP 4 rfl rfl 7 (by decide) (hT _ w150) (fun _ h9 => h9) rfl dX6_read_68 ?_
  refine lv_if_eq (tgt := 84) hx hb dX6_read_71 (by decide) (fun _ => ?_) (fun h => absurd (by decide) h)
  refine W.widen (k := 0) (n := 0) (Nat.le_of_ble_eq_true rfl) (Nat.le_of_ble_eq_true rfl) ?_
  have hP9 := hP.sub (ws' := [(a1, .inr (6, [.int 0, .int (-1), .ref rn, .ref rb, .ref tb, .int 0, .int 0, .int 0, .int 0, .int 0])), (rn, .inr (3, [.ref s0, .ref s1, .int 0, .int 0])), (rb, .inr (0, [.ref r0, .ref r1, .ref r2, .ref r3, .ref r4, .ref r5, .int 0, .int 0])), (r5, .inl (cR, 64, .inl fc2_2))]) [4, 1, 2, 3] rfl
  have hD9 := hD.sub (ws' := [(a1, .inr (6, [.int 0, .int (-1), .ref rn, .ref rb, .ref tb, .int 0, .int 0, .int 0, .int 0, .int 0])), (rn, .inr (3, [.ref s0, .ref s1, .int 0, .int 0])), (rb, .inr (0, [.ref r0, .ref r1, .ref r2, .ref r3, .ref r4, .ref r5, .int 0, .int 0])), (r5, .inl (cR, 64, .inl fc2_2))]) [4, 1, 2, 3] (by decide) rfl
  have hK9 := hK.sub (tys' := [(cR, .int)]) [0] rfl
  exact W.vret hx hb hr (fun t ht hW => ⟨⟨(), rfl, trivial, fc2_2, by rw [ht]; exact hP9, va_K.moved hW.alike hK9, hD9⟩, hS.F ht⟩) hS.2.2 dX6_read_84

set_option maxHeartbeats 4000000 in
set_option maxRecDepth 100000 in
theorem c_takeOver (l : Launch) (dC : Nat → ClassId) (dI : Nat → Nat → Nat) (h0 : Nat) (a0 : Nat) (a1 : Nat) (a2 : Nat) (a3 : Nat) (a4 : Nat) (a5 : Nat) (a6 : Nat) (a7 : Nat) (a8 : Nat) (a9 : Nat) (n0 : Nat) (b0 : Nat) (rn : Nat) (rb : Nat) (tb : Nat) (sz : Nat) : Met l yX11_takeOver (wT yX11_takeOver cX11_takeOver 3 none) ({ frames := 0, cells := 0, slots := 0, locals := 0 }) (pcW dC dI [.ref h0] sz [(h0, .inr (11, [.ref a0, .ref a1, .ref a2, .ref a3, .ref a4, .ref a5, .ref a6, .ref a7, .ref a8, .ref a9, .ref n0, .ref b0, .int (-1)])), (a1, .inr (6, [.int 0, .int (-1), .ref rn, .ref rb, .ref tb, .int 0, .int 0, .int 0, .int 0, .int 0]))] []) (va_Qv (fun _ : Unit => True) (fun _ t => pB dC dI (va_A [(h0, .inr (11, [.ref a0, .ref a1, .ref a2, .ref a3, .ref a4, .ref a5, .ref a6, .ref a7, .ref a8, .ref a9, .ref n0, .ref b0, .int (-1)])), (a1, .inr (6, [.int 0, .int (-1), .ref rn, .ref rb, .ref tb, .int 0, .int 0, .int 0, .int 0, .int 0]))] sz) [(h0, .inr (11, [.ref a0, .ref a1, .ref a2, .ref a3, .ref a4, .ref a5, .ref a6, .ref a7, .ref a8, .ref a9, .ref rn, .ref rb, .int (-1)])), (a1, .inr (6, [.int 0, .int (-1), .ref n0, .ref b0, .ref tb, .int 0, .int 0, .int 0, .int 0, .int 0]))] [] t) (va_A [(h0, .inr (11, [.ref a0, .ref a1, .ref a2, .ref a3, .ref a4, .ref a5, .ref a6, .ref a7, .ref a8, .ref a9, .ref n0, .ref b0, .int (-1)])), (a1, .inr (6, [.int 0, .int (-1), .ref rn, .ref rb, .ref tb, .int 0, .int 0, .int 0, .int 0, .int 0]))] sz)) 0 0 (va_A [(h0, .inr (11, [.ref a0, .ref a1, .ref a2, .ref a3, .ref a4, .ref a5, .ref a6, .ref a7, .ref a8, .ref a9, .ref n0, .ref b0, .int (-1)])), (a1, .inr (6, [.int 0, .int (-1), .ref rn, .ref rb, .ref tb, .int 0, .int 0, .int 0, .int 0, .int 0]))] sz) := by
  refine Met.ofW (cc := cX11_takeOver) (maxL := 3) (ret := none) (by decide) rfl ?_
  intro p e s m args below meth c s₁ B hml hv
  obtain ⟨rfl, hsz, hP, hK, hD0⟩ := hv
  have hx := B.exec
  have hb := B.bytes
  have hr := B.returns
  have hT : ∀ w ∈ TB, w.before [.ref h0].toArray s = true := fun w h => atoms_spec (ws := wT yX11_takeOver cX11_takeOver 3 none) B.pre w (List.mem_cons_of_mem _ h)
  have hown : s.vm.findClass RX11 = some m.cls := findClass_of_methodNamed B.named
  have hlocks := B.notSynchronized
  subst hsz
  have hD := hD0.self (sz := s.heap.size)
  generalize hAe : va_A [(h0, .inr (11, [.ref a0, .ref a1, .ref a2, .ref a3, .ref a4, .ref a5, .ref a6, .ref a7, .ref a8, .ref a9, .ref n0, .ref b0, .int (-1)])), (a1, .inr (6, [.int 0, .int (-1), .ref rn, .ref rb, .ref tb, .int 0, .int 0, .int 0, .int 0, .int 0]))] s.heap.size = A at hD ⊢
  have hA : ∀ q : Nat, s.heap.size ≤ q → A q := fun q h => by rw [← hAe]; exact Or.inr h
  have hS : va_S A s.heap s.heap [] := va_S.rf
  have hP : va_P (dC, dI) vwCl [(h0, .inr (11, [.ref a0, .ref a1, .ref a2, .ref a3, .ref a4, .ref a5, .ref a6, .ref a7, .ref a8, .ref a9, .ref n0, .ref b0, .int (-1)])), (a1, .inr (6, [.int 0, .int (-1), .ref rn, .ref rb, .ref tb, .int 0, .int 0, .int 0, .int 0, .int 0]))] s.heap := hP
  have hl := lv_entry ([.ref h0]) (n := 3) (Nat.le_of_ble_eq_true rfl)
  rw [lg_entry_eq]
  generalize (lg_sl ([.ref h0]) ++ List.replicate (3 - (lg_sl ([.ref h0])).length) Slot.unset).toArray = ls at hl ⊢
  have hl : lv_has ls 3 [(0, .ref h0)] := hl
  refine lv_aload_n hx hb dX11_takeOver_0 rfl (lv_at hl 0 rfl) ?_
  refine va_get (D := (dC, dI)) (ci := 11) (v := .ref n0) (C := RX11) (T := TX11) (N := 13) hx hb hT iX11 hown hK hP 0 rfl rfl 10 (by decide) (hT _ w363) (fun _ h9 => h9) rfl dX11_takeOver_1 ?_
  refine lv_astore_n (lv' := [(1, .ref n0), (0, .ref h0)]) hx hb dX11_takeOver_4 rfl hl (by decide) rfl (fun ls hl => ?_)
  refine lv_aload_n hx hb dX11_takeOver_5 rfl (lv_at hl 1 rfl) ?_
  refine lv_aload_n hx hb dX11_takeOver_6 rfl (lv_at hl 1 rfl) ?_
  refine va_get (D := (dC, dI)) (ci := 11) (v := .ref a1) (C := RX11) (T := TX11) (N := 13) hx hb hT iX11 hown hK hP 0 rfl rfl 1 (by decide) (hT _ w354) (fun _ h9 => h9) rfl dX11_takeOver_7 ?_
  refine va_get (D := (dC, dI)) (ci := 6) (v := .ref rn) (C := RX6) (T := TX6) (N := 10) hx hb hT iX6 hown hK hP 1 rfl rfl 2 (by decide) (hT _ w144) (fun _ h9 => h9) rfl dX11_takeOver_10 ?_
  refine va_put (D := (dC, dI)) (ci := 11) (v := .ref rn) (ty := .object "SwapPress$Names") (C := RX11) (T := TX11) (N := 13) hx hb hT iX11 tyX11 tyX11_ok nmX11 hown hK hP hD hS 0 rfl rfl 10 (by decide) (hT _ w363) (fun _ h9 => h9) rfl (by decide +kernel) rfl rfl (Nat.le_of_ble_eq_true rfl) dX11_takeOver_13 (fun H locs hP hD hS => ?_)
  have hP : va_P (dC, dI) vwCl [(h0, .inr (11, [.ref a0, .ref a1, .ref a2, .ref a3, .ref a4, .ref a5, .ref a6, .ref a7, .ref a8, .ref a9, .ref rn, .ref b0, .int (-1)])), (a1, .inr (6, [.int 0, .int (-1), .ref rn, .ref rb, .ref tb, .int 0, .int 0, .int 0, .int 0, .int 0]))] H := hP
  have hD : va_D A [(h0, .inr (11, [.ref a0, .ref a1, .ref a2, .ref a3, .ref a4, .ref a5, .ref a6, .ref a7, .ref a8, .ref a9, .ref rn, .ref b0, .int (-1)])), (a1, .inr (6, [.int 0, .int (-1), .ref rn, .ref rb, .ref tb, .int 0, .int 0, .int 0, .int 0, .int 0]))] := hD
  refine lv_aload_n hx hb dX11_takeOver_16 rfl (lv_at hl 1 rfl) ?_
  refine va_get (D := (dC, dI)) (ci := 11) (v := .ref a1) (C := RX11) (T := TX11) (N := 13) hx hb hT iX11 hown hK hP 0 rfl rfl 1 (by decide) (hT _ w354) (fun _ h9 => h9) rfl dX11_takeOver_17 ?_
  refine lv_aload_n hx hb dX11_takeOver_20 rfl (lv_at hl 0 rfl) ?_
  refine va_put (D := (dC, dI)) (ci := 6) (v := .ref n0) (ty := .object "SwapPress$Names") (C := RX6) (T := TX6) (N := 10) hx hb hT iX6 tyX6 tyX6_ok nmX6 hown hK hP hD hS 1 rfl rfl 2 (by decide) (hT _ w144) (fun _ h9 => h9) rfl (by decide +kernel) rfl rfl (Nat.le_of_ble_eq_true rfl) dX11_takeOver_21 (fun H locs hP hD hS => ?_)
  have hP : va_P (dC, dI) vwCl [(h0, .inr (11, [.ref a0, .ref a1, .ref a2, .ref a3, .ref a4, .ref a5, .ref a6, .ref a7, .ref a8, .ref a9, .ref rn, .ref b0, .int (-1)])), (a1, .inr (6, [.int 0, .int (-1), .ref n0, .ref rb, .ref tb, .int 0, .int 0, .int 0, .int 0, .int 0]))] H := hP
  have hD : va_D A [(h0, .inr (11, [.ref a0, .ref a1, .ref a2, .ref a3, .ref a4, .ref a5, .ref a6, .ref a7, .ref a8, .ref a9, .ref rn, .ref b0, .int (-1)])), (a1, .inr (6, [.int 0, .int (-1), .ref n0, .ref rb, .ref tb, .int 0, .int 0, .int 0, .int 0, .int 0]))] := hD
  refine lv_aload_n hx hb dX11_takeOver_24 rfl (lv_at hl 1 rfl) ?_
  refine va_get (D := (dC, dI)) (ci := 11) (v := .ref b0) (C := RX11) (T := TX11) (N := 13) hx hb hT iX11 hown hK hP 0 rfl rfl 11 (by decide) (hT _ w364) (fun _ h9 => h9) rfl dX11_takeOver_25 ?_
  refine lv_astore_n (lv' := [(2, .ref b0), (1, .ref n0), (0, .ref h0)]) hx hb dX11_takeOver_28 rfl hl (by decide) rfl (fun ls hl => ?_)
  refine lv_aload_n hx hb dX11_takeOver_29 rfl (lv_at hl 2 rfl) ?_
  refine lv_aload_n hx hb dX11_takeOver_30 rfl (lv_at hl 2 rfl) ?_
  refine va_get (D := (dC, dI)) (ci := 11) (v := .ref a1) (C := RX11) (T := TX11) (N := 13) hx hb hT iX11 hown hK hP 0 rfl rfl 1 (by decide) (hT _ w354) (fun _ h9 => h9) rfl dX11_takeOver_31 ?_
  refine va_get (D := (dC, dI)) (ci := 6) (v := .ref rb) (C := RX6) (T := TX6) (N := 10) hx hb hT iX6 hown hK hP 1 rfl rfl 3 (by decide) (hT _ w146) (fun _ h9 => h9) rfl dX11_takeOver_34 ?_
  refine va_put (D := (dC, dI)) (ci := 11) (v := .ref rb) (ty := .object "SwapPress$Book") (C := RX11) (T := TX11) (N := 13) hx hb hT iX11 tyX11 tyX11_ok nmX11 hown hK hP hD hS 0 rfl rfl 11 (by decide) (hT _ w364) (fun _ h9 => h9) rfl (by decide +kernel) rfl rfl (Nat.le_of_ble_eq_true rfl) dX11_takeOver_37 (fun H locs hP hD hS => ?_)
  have hP : va_P (dC, dI) vwCl [(h0, .inr (11, [.ref a0, .ref a1, .ref a2, .ref a3, .ref a4, .ref a5, .ref a6, .ref a7, .ref a8, .ref a9, .ref rn, .ref rb, .int (-1)])), (a1, .inr (6, [.int 0, .int (-1), .ref n0, .ref rb, .ref tb, .int 0, .int 0, .int 0, .int 0, .int 0]))] H := hP
  have hD : va_D A [(h0, .inr (11, [.ref a0, .ref a1, .ref a2, .ref a3, .ref a4, .ref a5, .ref a6, .ref a7, .ref a8, .ref a9, .ref rn, .ref rb, .int (-1)])), (a1, .inr (6, [.int 0, .int (-1), .ref n0, .ref rb, .ref tb, .int 0, .int 0, .int 0, .int 0, .int 0]))] := hD
  refine lv_aload_n hx hb dX11_takeOver_40 rfl (lv_at hl 2 rfl) ?_
  refine va_get (D := (dC, dI)) (ci := 11) (v := .ref a1) (C := RX11) (T := TX11) (N := 13) hx hb hT iX11 hown hK hP 0 rfl rfl 1 (by decide) (hT _ w354) (fun _ h9 => h9) rfl dX11_takeOver_41 ?_
  refine lv_aload_n hx hb dX11_takeOver_44 rfl (lv_at hl 0 rfl) ?_
  refine va_put (D := (dC, dI)) (ci := 6) (v := .ref b0) (ty := .object "SwapPress$Book") (C := RX6) (T := TX6) (N := 10) hx hb hT iX6 tyX6 tyX6_ok nmX6 hown hK hP hD hS 1 rfl rfl 3 (by decide) (hT _ w146) (fun _ h9 => h9) rfl (by decide +kernel) rfl rfl (Nat.le_of_ble_eq_true rfl) dX11_takeOver_45 (fun H locs hP hD hS => ?_)
  have hP : va_P (dC, dI) vwCl [(h0, .inr (11, [.ref a0, .ref a1, .ref a2, .ref a3, .ref a4, .ref a5, .ref a6, .ref a7, .ref a8, .ref a9, .ref rn, .ref rb, .int (-1)])), (a1, .inr (6, [.int 0, .int (-1), .ref n0, .ref b0, .ref tb, .int 0, .int 0, .int 0, .int 0, .int 0]))] H := hP
  have hD : va_D A [(h0, .inr (11, [.ref a0, .ref a1, .ref a2, .ref a3, .ref a4, .ref a5, .ref a6, .ref a7, .ref a8, .ref a9, .ref rn, .ref rb, .int (-1)])), (a1, .inr (6, [.int 0, .int (-1), .ref n0, .ref b0, .ref tb, .int 0, .int 0, .int 0, .int 0, .int 0]))] := hD
  refine W.widen (k := 0) (n := 0) (Nat.le_of_ble_eq_true rfl) (Nat.le_of_ble_eq_true rfl) ?_
  have hP9 := hP.sub (ws' := [(h0, .inr (11, [.ref a0, .ref a1, .ref a2, .ref a3, .ref a4, .ref a5, .ref a6, .ref a7, .ref a8, .ref a9, .ref rn, .ref rb, .int (-1)])), (a1, .inr (6, [.int 0, .int (-1), .ref n0, .ref b0, .ref tb, .int 0, .int 0, .int 0, .int 0, .int 0]))]) [0, 1] rfl
  have hD9 := hD.sub (ws' := [(h0, .inr (11, [.ref a0, .ref a1, .ref a2, .ref a3, .ref a4, .ref a5, .ref a6, .ref a7, .ref a8, .ref a9, .ref rn, .ref rb, .int (-1)])), (a1, .inr (6, [.int 0, .int (-1), .ref n0, .ref b0, .ref tb, .int 0, .int 0, .int 0, .int 0, .int 0]))]) [0, 1] (by decide) rfl
  have hK9 := hK.sub (tys' := []) [] rfl
  exact W.vret hx hb hr (fun t ht hW => ⟨⟨(), rfl, trivial, by rw [ht]; exact hP9, va_K.moved hW.alike hK9, hD9⟩, hS.F ht⟩) hS.2.2 dX11_takeOver_48

set_option maxHeartbeats 4000000 in
set_option maxRecDepth 100000 in
theorem c_tell (l : Launch) (dC : Nat → ClassId) (dI : Nat → Nat → Nat) (h0 : Nat) (a0 : Nat) (a1 : Nat) (a2 : Nat) (a3 : Nat) (a4 : Nat) (a5 : Nat) (a6 : Nat) (a7 : Nat) (a8 : Nat) (a9 : Nat) (n0 : Nat) (b0 : Nat) (tb : Nat) (cB : ClassId) (fb : Nat → Int32) (rn : Nat) (rb : Nat) (s0 : Nat) (s1 : Nat) (r0 : Nat) (r1 : Nat) (r2 : Nat) (r3 : Nat) (r4 : Nat) (r5 : Nat) (cR : ClassId) (fr : Nat → Int32) (ba : Nat) (sz : Nat) (k0 : Int32) : Met l yX11_tell (wT yX11_tell cX11_tell 2 (some .int)) ({ frames := 3, cells := 0, slots := 0, locals := 65 }) (pcW dC dI [.ref h0, .int k0] sz [(h0, .inr (11, [.ref a0, .ref a1, .ref a2, .ref a3, .ref a4, .ref a5, .ref a6, .ref a7, .ref a8, .ref a9, .ref n0, .ref b0, .int (-1)])), (a0, .inr (10, [.ref tb, .int 0])), (tb, .inl (cB, 900, .inl fb)), (a1, .inr (6, [.int 0, .int (-1), .ref rn, .ref rb, .ref tb, .int 0, .int 0, .int 0, .int 0, .int 0])), (rn, .inr (3, [.ref s0, .ref s1, .int 0, .int 0])), (rb, .inr (0, [.ref r0, .ref r1, .ref r2, .ref r3, .ref r4, .ref r5, .int 0, .int 0])), (r5, .inl (cR, 64, .inl fr)), (a2, .inr (5, [.ref ba, .int 0]))] [(cB, .byte), (cR, .int)]) (va_Qi (fun (r : Int32) (_ : Unit) => r = (if k0 = 0 then 0 else (-3))) (fun _ _ => True) (va_A [(h0, .inr (11, [.ref a0, .ref a1, .ref a2, .ref a3, .ref a4, .ref a5, .ref a6, .ref a7, .ref a8, .ref a9, .ref n0, .ref b0, .int (-1)])), (a0, .inr (10, [.ref tb, .int 0])), (tb, .inl (cB, 900, .inl fb)), (a1, .inr (6, [.int 0, .int (-1), .ref rn, .ref rb, .ref tb, .int 0, .int 0, .int 0, .int 0, .int 0])), (rn, .inr (3, [.ref s0, .ref s1, .int 0, .int 0])), (rb, .inr (0, [.ref r0, .ref r1, .ref r2, .ref r3, .ref r4, .ref r5, .int 0, .int 0])), (r5, .inl (cR, 64, .inl fr)), (a2, .inr (5, [.ref ba, .int 0]))] sz)) 0 0 (va_A [(h0, .inr (11, [.ref a0, .ref a1, .ref a2, .ref a3, .ref a4, .ref a5, .ref a6, .ref a7, .ref a8, .ref a9, .ref n0, .ref b0, .int (-1)])), (a0, .inr (10, [.ref tb, .int 0])), (tb, .inl (cB, 900, .inl fb)), (a1, .inr (6, [.int 0, .int (-1), .ref rn, .ref rb, .ref tb, .int 0, .int 0, .int 0, .int 0, .int 0])), (rn, .inr (3, [.ref s0, .ref s1, .int 0, .int 0])), (rb, .inr (0, [.ref r0, .ref r1, .ref r2, .ref r3, .ref r4, .ref r5, .int 0, .int 0])), (r5, .inl (cR, 64, .inl fr)), (a2, .inr (5, [.ref ba, .int 0]))] sz) := by
  refine Met.ofW (cc := cX11_tell) (maxL := 2) (ret := (some .int)) (by decide) rfl ?_
  intro p e s m args below meth c s₁ B hml hv
  obtain ⟨rfl, hsz, hP, hK, hD0⟩ := hv
  have hx := B.exec
  have hb := B.bytes
  have hr := B.returns
  have hT : ∀ w ∈ TB, w.before [.ref h0, .int k0].toArray s = true := fun w h => atoms_spec (ws := wT yX11_tell cX11_tell 2 (some .int)) B.pre w (List.mem_cons_of_mem _ h)
  have hown : s.vm.findClass RX11 = some m.cls := findClass_of_methodNamed B.named
  have hlocks := B.notSynchronized
  subst hsz
  have hD := hD0.self (sz := s.heap.size)
  generalize hAe : va_A [(h0, .inr (11, [.ref a0, .ref a1, .ref a2, .ref a3, .ref a4, .ref a5, .ref a6, .ref a7, .ref a8, .ref a9, .ref n0, .ref b0, .int (-1)])), (a0, .inr (10, [.ref tb, .int 0])), (tb, .inl (cB, 900, .inl fb)), (a1, .inr (6, [.int 0, .int (-1), .ref rn, .ref rb, .ref tb, .int 0, .int 0, .int 0, .int 0, .int 0])), (rn, .inr (3, [.ref s0, .ref s1, .int 0, .int 0])), (rb, .inr (0, [.ref r0, .ref r1, .ref r2, .ref r3, .ref r4, .ref r5, .int 0, .int 0])), (r5, .inl (cR, 64, .inl fr)), (a2, .inr (5, [.ref ba, .int 0]))] s.heap.size = A at hD ⊢
  have hA : ∀ q : Nat, s.heap.size ≤ q → A q := fun q h => by rw [← hAe]; exact Or.inr h
  have hS : va_S A s.heap s.heap [] := va_S.rf
  have hP : va_P (dC, dI) vwCl [(h0, .inr (11, [.ref a0, .ref a1, .ref a2, .ref a3, .ref a4, .ref a5, .ref a6, .ref a7, .ref a8, .ref a9, .ref n0, .ref b0, .int (-1)])), (a0, .inr (10, [.ref tb, .int 0])), (tb, .inl (cB, 900, .inl fb)), (a1, .inr (6, [.int 0, .int (-1), .ref rn, .ref rb, .ref tb, .int 0, .int 0, .int 0, .int 0, .int 0])), (rn, .inr (3, [.ref s0, .ref s1, .int 0, .int 0])), (rb, .inr (0, [.ref r0, .ref r1, .ref r2, .ref r3, .ref r4, .ref r5, .int 0, .int 0])), (r5, .inl (cR, 64, .inl fr)), (a2, .inr (5, [.ref ba, .int 0]))] s.heap := hP
  have hl := lv_entry ([.ref h0, .int k0]) (n := 2) (Nat.le_of_ble_eq_true rfl)
  rw [lg_entry_eq]
  generalize (lg_sl ([.ref h0, .int k0]) ++ List.replicate (2 - (lg_sl ([.ref h0, .int k0])).length) Slot.unset).toArray = ls at hl ⊢
  have hl : lv_has ls 2 [(0, .ref h0), (1, .int k0)] := hl
  refine lv_iload_n hx hb dX11_tell_0 rfl (lv_at hl 1 rfl) ?_
  refine lv_if_lt (tgt := 15) hx hb dX11_tell_1 (by decide) (fun c_1 => ?_) (fun c_1 => ?_)
  · refine lv_bipush (v := (-3)) hx hb dX11_tell_15 (by decide) ?_
    refine W.widen (k := 0) (n := 0) (Nat.le_of_ble_eq_true rfl) (Nat.le_of_ble_eq_true rfl) ?_
    exact W.iret (v := (-3)) hx hb hr (fun t ht hW => ⟨⟨(-3), (), rfl, (tl_a c_1), trivial⟩, hS.F ht⟩) hS.2.2 dX11_tell_17
  · refine lv_iload_n hx hb dX11_tell_4 rfl (lv_at hl 1 rfl) ?_
    refine lv_aload_n hx hb dX11_tell_5 rfl (lv_at hl 0 rfl) ?_
    refine va_get (D := (dC, dI)) (ci := 11) (v := .ref a0) (C := RX11) (T := TX11) (N := 13) hx hb hT iX11 hown hK hP 0 rfl rfl 0 (by decide) (hT _ w353) (fun _ h9 => h9) rfl dX11_tell_6 ?_
    refine va_get (D := (dC, dI)) (ci := 10) (v := .int 0) (C := RX10) (T := TX10) (N := 2) hx hb hT iX10 hown hK hP 1 rfl rfl 1 (by decide) (hT _ w38) (fun _ h9 => h9) rfl dX11_tell_9 ?_
    refine lv_icmp_le (tgt := 18) hx hb dX11_tell_12 (by decide) (fun c_12 => ?_) (fun c_12 => ?_)
    · obtain rfl : k0 = 0 := i_eq0 c_1 c_12
      refine lv_aload_n hx hb dX11_tell_18 rfl (lv_at hl 0 rfl) ?_
      refine va_get (D := (dC, dI)) (ci := 11) (v := .ref a0) (C := RX11) (T := TX11) (N := 13) hx hb hT iX11 hown hK hP 0 rfl rfl 0 (by decide) (hT _ w353) (fun _ h9 => h9) rfl dX11_tell_19 ?_
      refine lv_iconst (v := 0) hx hb dX11_tell_22 (by decide) ?_
      refine va_put (D := (dC, dI)) (ci := 10) (v := .int 0) (ty := .int) (C := RX10) (T := TX10) (N := 2) hx hb hT iX10 tyX10 tyX10_ok nmX10 hown hK hP hD hS 1 rfl rfl 1 (by decide) (hT _ w38) (fun _ h9 => h9) rfl (by decide +kernel) rfl rfl (Nat.le_of_ble_eq_true rfl) dX11_tell_23 (fun H locs hP hD hS => ?_)
      have hP : va_P (dC, dI) vwCl [(h0, .inr (11, [.ref a0, .ref a1, .ref a2, .ref a3, .ref a4, .ref a5, .ref a6, .ref a7, .ref a8, .ref a9, .ref n0, .ref b0, .int (-1)])), (a0, .inr (10, [.ref tb, .int 0])), (tb, .inl (cB, 900, .inl fb)), (a1, .inr (6, [.int 0, .int (-1), .ref rn, .ref rb, .ref tb, .int 0, .int 0, .int 0, .int 0, .int 0])), (rn, .inr (3, [.ref s0, .ref s1, .int 0, .int 0])), (rb, .inr (0, [.ref r0, .ref r1, .ref r2, .ref r3, .ref r4, .ref r5, .int 0, .int 0])), (r5, .inl (cR, 64, .inl fr)), (a2, .inr (5, [.ref ba, .int 0]))] H := hP
      have hD : va_D A [(h0, .inr (11, [.ref a0, .ref a1, .ref a2, .ref a3, .ref a4, .ref a5, .ref a6, .ref a7, .ref a8, .ref a9, .ref n0, .ref b0, .int (-1)])), (a0, .inr (10, [.ref tb, .int 0])), (tb, .inl (cB, 900, .inl fb)), (a1, .inr (6, [.int 0, .int (-1), .ref rn, .ref rb, .ref tb, .int 0, .int 0, .int 0, .int 0, .int 0])), (rn, .inr (3, [.ref s0, .ref s1, .int 0, .int 0])), (rb, .inr (0, [.ref r0, .ref r1, .ref r2, .ref r3, .ref r4, .ref r5, .int 0, .int 0])), (r5, .inl (cR, 64, .inl fr)), (a2, .inr (5, [.ref ba, .int 0]))] := hD
      refine lv_aload_n hx hb dX11_tell_26 rfl (lv_at hl 0 rfl) ?_
      refine va_get (D := (dC, dI)) (ci := 11) (v := .ref a1) (C := RX11) (T := TX11) (N := 13) hx hb hT iX11 hown hK hP 0 rfl rfl 1 (by decide) (hT _ w354) (fun _ h9 => h9) rfl dX11_tell_27 ?_
      refine lv_iload_n hx hb dX11_tell_30 rfl (lv_at hl 1 rfl) ?_
      have hPc := hP.sub (ws' := [(a1, .inr (6, [.int 0, .int (-1), .ref rn, .ref rb, .ref tb, .int 0, .int 0, .int 0, .int 0, .int 0])), (rn, .inr (3, [.ref s0, .ref s1, .int 0, .int 0])), (rb, .inr (0, [.ref r0, .ref r1, .ref r2, .ref r3, .ref r4, .ref r5, .int 0, .int 0])), (r5, .inl (cR, 64, .inl fr)), (tb, .inl (cB, 900, .inl fb))]) [3, 4, 5, 6, 2] rfl
      have hDc := hD.sub (ws' := [(a1, .inr (6, [.int 0, .int (-1), .ref rn, .ref rb, .ref tb, .int 0, .int 0, .int 0, .int 0, .int 0])), (rn, .inr (3, [.ref s0, .ref s1, .int 0, .int 0])), (rb, .inr (0, [.ref r0, .ref r1, .ref r2, .ref r3, .ref r4, .ref r5, .int 0, .int 0])), (r5, .inl (cR, 64, .inl fr)), (tb, .inl (cB, 900, .inl fb))]) [3, 4, 5, 6, 2] (by decide) rfl
      have hKc := hK.sub (tys' := [(cR, .int), (cB, .byte)]) [1, 0] rfl
      have hFc := va_free (wc := [(a1, .inr (6, [.int 0, .int (-1), .ref rn, .ref rb, .ref tb, .int 0, .int 0, .int 0, .int 0, .int 0])), (rn, .inr (3, [.ref s0, .ref s1, .int 0, .int 0])), (rb, .inr (0, [.ref r0, .ref r1, .ref r2, .ref r3, .ref r4, .ref r5, .int 0, .int 0])), (r5, .inl (cR, 64, .inl fr)), (tb, .inl (cB, 900, .inl fb))]) hD hS hA [3, 4, 5, 6, 2] rfl
      refine va_callv (va_runV (As := [.int 0]) (rest := []) ⟨hx, hb, hml, hown, hT⟩ (c_read l dC dI a1 rn rb tb s0 s1 r0 r1 r2 r3 r4 r5 cR fr cB fb H.size) (cwV 1 hT (gV w405 w406 w407 w3 w408) rfl rfl rfl (by decide +kernel) ⟨(Nat.le_of_ble_eq_true rfl), (Nat.le_of_ble_eq_true rfl)⟩) ⟨pcW.blind, va_recv hKc hPc (ci := 6) (q0 := 0) rfl rfl, pcW.pre hPc hKc hDc⟩ rfl rfl hl.1 rfl (lv_room (Nat.le_of_ble_eq_true rfl)) dX11_tell_31 ⟨(Nat.le_of_ble_eq_true rfl), (Nat.le_of_ble_eq_true rfl)⟩) hS (fun q _ h => hFc q h) hFc (fun u t H1 locs ht hvm hw hB hz1 hk1 hS => ?_)
      obtain ⟨fr2_1, hP1, hK1, hD1⟩ := hB
      rw [ht] at hP1
      have hK1 := va_K.moved hvm.symm hK1
      obtain ⟨hP, hD⟩ := va_join (wr := [(h0, .inr (11, [.ref a0, .ref a1, .ref a2, .ref a3, .ref a4, .ref a5, .ref a6, .ref a7, .ref a8, .ref a9, .ref n0, .ref b0, .int (-1)])), (a0, .inr (10, [.ref tb, .int 0])), (a2, .inr (5, [.ref ba, .int 0]))]) (w1 := [(a1, .inr (6, [.int 0, .int (-1), .ref rn, .ref rb, .ref tb, .int 0, .int 0, .int 0, .int 0, .int 0])), (rn, .inr (3, [.ref s0, .ref s1, .int 0, .int 0])), (rb, .inr (0, [.ref r0, .ref r1, .ref r2, .ref r3, .ref r4, .ref r5, .int 0, .int 0])), (r5, .inl (cR, 64, .inl fr2_1))]) hP hD [3, 4, 5, 6, 2] [0, 1, 7] rfl rfl (by decide) (by decide) hk1 hFc hP1 hD1
      have hK := hK.app hK1
      generalize H1 = H at hP hS ⊢
      have hP : va_P (dC, dI) vwCl [(h0, .inr (11, [.ref a0, .ref a1, .ref a2, .ref a3, .ref a4, .ref a5, .ref a6, .ref a7, .ref a8, .ref a9, .ref n0, .ref b0, .int (-1)])), (a0, .inr (10, [.ref tb, .int 0])), (a2, .inr (5, [.ref ba, .int 0])), (a1, .inr (6, [.int 0, .int (-1), .ref rn, .ref rb, .ref tb, .int 0, .int 0, .int 0, .int 0, .int 0])), (rn, .inr (3, [.ref s0, .ref s1, .int 0, .int 0])), (rb, .inr (0, [.ref r0, .ref r1, .ref r2, .ref r3, .ref r4, .ref r5, .int 0, .int 0])), (r5, .inl (cR, 64, .inl fr2_1))] H := hP
      have hD : va_D A [(h0, .inr (11, [.ref a0, .ref a1, .ref a2, .ref a3, .ref a4, .ref a5, .ref a6, .ref a7, .ref a8, .ref a9, .ref n0, .ref b0, .int (-1)])), (a0, .inr (10, [.ref tb, .int 0])), (a2, .inr (5, [.ref ba, .int 0])), (a1, .inr (6, [.int 0, .int (-1), .ref rn, .ref rb, .ref tb, .int 0, .int 0, .int 0, .int 0, .int 0])), (rn, .inr (3, [.ref s0, .ref s1, .int 0, .int 0])), (rb, .inr (0, [.ref r0, .ref r1, .ref r2, .ref r3, .ref r4, .ref r5, .int 0, .int 0])), (r5, .inl (cR, 64, .inl fr2_1))] := hD
      have hK : va_K (dC, dI) vwCl [(cB, .byte), (cR, .int), (cR, .int)] s := hK
      refine W.widen (k := 0) (n := 0) (Nat.le_of_ble_eq_true rfl) (Nat.le_of_ble_eq_true rfl) ?_
      refine lv_aload_n hx hb dX11_tell_34 rfl (lv_at hl 0 rfl) ?_
      refine va_get (D := (dC, dI)) (ci := 11) (v := .ref a1) (C := RX11) (T := TX11) (N := 13) hx hb hT iX11 hown hK hP 0 rfl rfl 1 (by decide) (hT _ w354) (fun _ h9 => h9) rfl dX11_tell_35 ?_
      refine va_get (D := (dC, dI)) (ci := 6) (v := .int 0) (C := RX6) (T := TX6) (N := 10) hx hb hT iX6 hown hK hP 3 rfl rfl 0 (by decide) (hT _ w140) (fun _ h9 => h9) rfl dX11_tell_38 ?_
      refine lv_if_eq (tgt := 55) hx hb dX11_tell_41 (by decide) (fun _ => ?_) (fun h => absurd (by decide) h)
      refine lv_aload_n hx hb dX11_tell_55 rfl (lv_at hl 0 rfl) ?_
      have hPc := hP.sub (ws' := [(h0, .inr (11, [.ref a0, .ref a1, .ref a2, .ref a3, .ref a4, .ref a5, .ref a6, .ref a7, .ref a8, .ref a9, .ref n0, .ref b0, .int (-1)])), (a1, .inr (6, [.int 0, .int (-1), .ref rn, .ref rb, .ref tb, .int 0, .int 0, .int 0, .int 0, .int 0]))]) [0, 3] rfl
      have hDc := hD.sub (ws' := [(h0, .inr (11, [.ref a0, .ref a1, .ref a2, .ref a3, .ref a4, .ref a5, .ref a6, .ref a7, .ref a8, .ref a9, .ref n0, .ref b0, .int (-1)])), (a1, .inr (6, [.int 0, .int (-1), .ref rn, .ref rb, .ref tb, .int 0, .int 0, .int 0, .int 0, .int 0]))]) [0, 3] (by decide) rfl
      have hKc := hK.sub (tys' := []) [] rfl
      have hFc := va_free (wc := [(h0, .inr (11, [.ref a0, .ref a1, .ref a2, .ref a3, .ref a4, .ref a5, .ref a6, .ref a7, .ref a8, .ref a9, .ref n0, .ref b0, .int (-1)])), (a1, .inr (6, [.int 0, .int (-1), .ref rn, .ref rb, .ref tb, .int 0, .int 0, .int 0, .int 0, .int 0]))]) hD hS hA [0, 3] rfl
      refine va_callv (va_runV (As := []) (rest := []) ⟨hx, hb, hml, hown, hT⟩ (c_takeOver l dC dI h0 a0 a1 a2 a3 a4 a5 a6 a7 a8 a9 n0 b0 rn rb tb H.size) (cwV 0 hT (gV w586 w588 ws21 w1 w589) rfl rfl rfl (by decide +kernel) ⟨(Nat.le_of_ble_eq_true rfl), (Nat.le_of_ble_eq_true rfl)⟩) ⟨pcW.blind, va_recv hKc hPc (ci := 11) (q0 := 0) rfl rfl, pcW.pre hPc hKc hDc⟩ rfl rfl hl.1 rfl (lv_room (Nat.le_of_ble_eq_true rfl)) dX11_tell_56 ⟨(Nat.le_of_ble_eq_true rfl), (Nat.le_of_ble_eq_true rfl)⟩) hS (fun q _ h => hFc q h) hFc (fun u t H1 locs ht hvm hw hB hz1 hk1 hS => ?_)
      obtain ⟨hP1, hK1, hD1⟩ := hB
      rw [ht] at hP1
      have hK1 := va_K.moved hvm.symm hK1
      obtain ⟨hP, hD⟩ := va_join (wr := [(a0, .inr (10, [.ref tb, .int 0])), (a2, .inr (5, [.ref ba, .int 0])), (rn, .inr (3, [.ref s0, .ref s1, .int 0, .int 0])), (rb, .inr (0, [.ref r0, .ref r1, .ref r2, .ref r3, .ref r4, .ref r5, .int 0, .int 0])), (r5, .inl (cR, 64, .inl fr2_1))]) (w1 := [(h0, .inr (11, [.ref a0, .ref a1, .ref a2, .ref a3, .ref a4, .ref a5, .ref a6, .ref a7, .ref a8, .ref a9, .ref rn, .ref rb, .int (-1)])), (a1, .inr (6, [.int 0, .int (-1), .ref n0, .ref b0, .ref tb, .int 0, .int 0, .int 0, .int 0, .int 0]))]) hP hD [0, 3] [1, 2, 4, 5, 6] rfl rfl (by decide) (by decide) hk1 hFc hP1 hD1
      have hK := hK.app hK1
      generalize H1 = H at hP hS ⊢
      have hP : va_P (dC, dI) vwCl [(a0, .inr (10, [.ref tb, .int 0])), (a2, .inr (5, [.ref ba, .int 0])), (rn, .inr (3, [.ref s0, .ref s1, .int 0, .int 0])), (rb, .inr (0, [.ref r0, .ref r1, .ref r2, .ref r3, .ref r4, .ref r5, .int 0, .int 0])), (r5, .inl (cR, 64, .inl fr2_1)), (h0, .inr (11, [.ref a0, .ref a1, .ref a2, .ref a3, .ref a4, .ref a5, .ref a6, .ref a7, .ref a8, .ref a9, .ref rn, .ref rb, .int (-1)])), (a1, .inr (6, [.int 0, .int (-1), .ref n0, .ref b0, .ref tb, .int 0, .int 0, .int 0, .int 0, .int 0]))] H := hP
      have hD : va_D A [(a0, .inr (10, [.ref tb, .int 0])), (a2, .inr (5, [.ref ba, .int 0])), (rn, .inr (3, [.ref s0, .ref s1, .int 0, .int 0])), (rb, .inr (0, [.ref r0, .ref r1, .ref r2, .ref r3, .ref r4, .ref r5, .int 0, .int 0])), (r5, .inl (cR, 64, .inl fr2_1)), (h0, .inr (11, [.ref a0, .ref a1, .ref a2, .ref a3, .ref a4, .ref a5, .ref a6, .ref a7, .ref a8, .ref a9, .ref rn, .ref rb, .int (-1)])), (a1, .inr (6, [.int 0, .int (-1), .ref n0, .ref b0, .ref tb, .int 0, .int 0, .int 0, .int 0, .int 0]))] := hD
      have hK : va_K (dC, dI) vwCl [(cB, .byte), (cR, .int), (cR, .int)] s := hK
      refine W.widen (k := 0) (n := 0) (Nat.le_of_ble_eq_true rfl) (Nat.le_of_ble_eq_true rfl) ?_
      refine lv_aload_n hx hb dX11_tell_59 rfl (lv_at hl 0 rfl) ?_
      refine va_get (D := (dC, dI)) (ci := 11) (v := .ref a2) (C := RX11) (T := TX11) (N := 13) hx hb hT iX11 hown hK hP 5 rfl rfl 2 (by decide) (hT _ w355) (fun _ h9 => h9) rfl dX11_tell_60 ?_
      refine lv_iconst (v := 0) hx hb dX11_tell_63 (by decide) ?_
      refine va_put (D := (dC, dI)) (ci := 5) (v := .int 0) (ty := .int) (C := RX5) (T := TX5) (N := 2) hx hb hT iX5 tyX5 tyX5_ok nmX5 hown hK hP hD hS 1 rfl rfl 1 (by decide) (hT _ w185) (fun _ h9 => h9) rfl (by decide +kernel) rfl rfl (Nat.le_of_ble_eq_true rfl) dX11_tell_64 (fun H locs hP hD hS => ?_)
      have hP : va_P (dC, dI) vwCl [(a0, .inr (10, [.ref tb, .int 0])), (a2, .inr (5, [.ref ba, .int 0])), (rn, .inr (3, [.ref s0, .ref s1, .int 0, .int 0])), (rb, .inr (0, [.ref r0, .ref r1, .ref r2, .ref r3, .ref r4, .ref r5, .int 0, .int 0])), (r5, .inl (cR, 64, .inl fr2_1)), (h0, .inr (11, [.ref a0, .ref a1, .ref a2, .ref a3, .ref a4, .ref a5, .ref a6, .ref a7, .ref a8, .ref a9, .ref rn, .ref rb, .int (-1)])), (a1, .inr (6, [.int 0, .int (-1), .ref n0, .ref b0, .ref tb, .int 0, .int 0, .int 0, .int 0, .int 0]))] H := hP
      have hD : va_D A [(a0, .inr (10, [.ref tb, .int 0])), (a2, .inr (5, [.ref ba, .int 0])), (rn, .inr (3, [.ref s0, .ref s1, .int 0, .int 0])), (rb, .inr (0, [.ref r0, .ref r1, .ref r2, .ref r3, .ref r4, .ref r5, .int 0, .int 0])), (r5, .inl (cR, 64, .inl fr2_1)), (h0, .inr (11, [.ref a0, .ref a1, .ref a2, .ref a3, .ref a4, .ref a5, .ref a6, .ref a7, .ref a8, .ref a9, .ref rn, .ref rb, .int (-1)])), (a1, .inr (6, [.int 0, .int (-1), .ref n0, .ref b0, .ref tb, .int 0, .int 0, .int 0, .int 0, .int 0]))] := hD
      refine lv_aload_n hx hb dX11_tell_67 rfl (lv_at hl 0 rfl) ?_
      refine lv_iconst (v := (-1)) hx hb dX11_tell_68 (by decide) ?_
      refine va_put (D := (dC, dI)) (ci := 11) (v := .int (-1)) (ty := .int) (C := RX11) (T := TX11) (N := 13) hx hb hT iX11 tyX11 tyX11_ok nmX11 hown hK hP hD hS 5 rfl rfl 12 (by decide) (hT _ w365) (fun _ h9 => h9) rfl (by decide +kernel) rfl rfl (Nat.le_of_ble_eq_true rfl) dX11_tell_69 (fun H locs hP hD hS => ?_)
      have hP : va_P (dC, dI) vwCl [(a0, .inr (10, [.ref tb, .int 0])), (a2, .inr (5, [.ref ba, .int 0])), (rn, .inr (3, [.ref s0, .ref s1, .int 0, .int 0])), (rb, .inr (0, [.ref r0, .ref r1, .ref r2, .ref r3, .ref r4, .ref r5, .int 0, .int 0])), (r5, .inl (cR, 64, .inl fr2_1)), (h0, .inr (11, [.ref a0, .ref a1, .ref a2, .ref a3, .ref a4, .ref a5, .ref a6, .ref a7, .ref a8, .ref a9, .ref rn, .ref rb, .int (-1)])), (a1, .inr (6, [.int 0, .int (-1), .ref n0, .ref b0, .ref tb, .int 0, .int 0, .int 0, .int 0, .int 0]))] H := hP
      have hD : va_D A [(a0, .inr (10, [.ref tb, .int 0])), (a2, .inr (5, [.ref ba, .int 0])), (rn, .inr (3, [.ref s0, .ref s1, .int 0, .int 0])), (rb, .inr (0, [.ref r0, .ref r1, .ref r2, .ref r3, .ref r4, .ref r5, .int 0, .int 0])), (r5, .inl (cR, 64, .inl fr2_1)), (h0, .inr (11, [.ref a0, .ref a1, .ref a2, .ref a3, .ref a4, .ref a5, .ref a6, .ref a7, .ref a8, .ref a9, .ref rn, .ref rb, .int (-1)])), (a1, .inr (6, [.int 0, .int (-1), .ref n0, .ref b0, .ref tb, .int 0, .int 0, .int 0, .int 0, .int 0]))] := hD
      refine lv_aload_n hx hb dX11_tell_72 rfl (lv_at hl 0 rfl) ?_
      refine va_get (D := (dC, dI)) (ci := 11) (v := .ref rb) (C := RX11) (T := TX11) (N := 13) hx hb hT iX11 hown hK hP 5 rfl rfl 11 (by decide) (hT _ w364) (fun _ h9 => h9) rfl dX11_tell_73 ?_
      refine va_get (D := (dC, dI)) (ci := 0) (v := .int 0) (C := RX0) (T := TX0) (N := 8) hx hb hT iX0 hown hK hP 3 rfl rfl 6 (by decide) (hT _ w114) (fun _ h9 => h9) rfl dX11_tell_76 ?_
      refine W.widen (k := 0) (n := 0) (Nat.le_of_ble_eq_true rfl) (Nat.le_of_ble_eq_true rfl) ?_
      exact W.iret (v := 0) hx hb hr (fun t ht hW => ⟨⟨0, (), rfl, (by decide), trivial⟩, hS.F ht⟩) hS.2.2 dX11_tell_79
    · refine lv_bipush (v := (-3)) hx hb dX11_tell_15 (by decide) ?_
      refine W.widen (k := 0) (n := 0) (Nat.le_of_ble_eq_true rfl) (Nat.le_of_ble_eq_true rfl) ?_
      exact W.iret (v := (-3)) hx hb hr (fun t ht hW => ⟨⟨(-3), (), rfl, (tl_b c_12), trivial⟩, hS.F ht⟩) hS.2.2 dX11_tell_17

set_option maxHeartbeats 4000000 in
set_option maxRecDepth 100000 in
theorem m_peek (l : Launch) (dC : Nat → ClassId) (dI : Nat → Nat → Nat) (m0 : Nat) (g0 : Nat) (g1 : Nat) (g2 : Nat) (g3 : Nat) (g4 : Nat) (g9 : Nat) (g17 : Nat) (g18 : Nat) (g20 : Nat) (g21 : Nat) (g22 : Nat) (g23 : Nat) (g24 : Nat) (g25 : Nat) (g26 : Nat) (g27 : Nat) (g28 : Nat) (g29 : Nat) (g30 : Nat) (sz : Nat) : Met l yX12_peek (wT yX12_peek cX12_peek 1 (some .int)) ({ frames := 0, cells := 0, slots := 0, locals := 0 }) (pcW dC dI [.ref m0] sz [(m0, .inr (12, [.ref g0, .ref g1, .ref g2, .ref g3, .ref g4, .int 0, .int 0, .int 0, .int 0, .ref g9, .int 0, .int 0, .int 0, .int 0, .int (-1), .int 0, .int 0, .ref g17, .ref g18, .int 0, .ref g20, .ref g21, .ref g22, .ref g23, .ref g24, .ref g25, .ref g26, .ref g27, .ref g28, .ref g29, .ref g30, .int 0]))] []) (vp_Si (fun r => r = (-1))) 0 0 (fun _ => False) := by
  refine Met.ofW (cc := cX12_peek) (maxL := 1) (ret := (some .int)) (by decide) rfl ?_
  intro p e s m args below meth c s₁ B hml hv
  obtain ⟨rfl, hsz, hP, hK, hD0⟩ := hv
  have hx := B.exec
  have hb := B.bytes
  have hr := B.returns
  have hT : ∀ w ∈ TB, w.before [.ref m0].toArray s = true := fun w h => atoms_spec (ws := wT yX12_peek cX12_peek 1 (some .int)) B.pre w (List.mem_cons_of_mem _ h)
  have hown : s.vm.findClass RX12 = some m.cls := findClass_of_methodNamed B.named
  have hlocks := B.notSynchronized
  subst hsz
  have hD := hD0
  have hP : va_P (dC, dI) vwCl [(m0, .inr (12, [.ref g0, .ref g1, .ref g2, .ref g3, .ref g4, .int 0, .int 0, .int 0, .int 0, .ref g9, .int 0, .int 0, .int 0, .int 0, .int (-1), .int 0, .int 0, .ref g17, .ref g18, .int 0, .ref g20, .ref g21, .ref g22, .ref g23, .ref g24, .ref g25, .ref g26, .ref g27, .ref g28, .ref g29, .ref g30, .int 0]))] s.heap := hP
  have hl := lv_entry ([.ref m0]) (n := 1) (Nat.le_of_ble_eq_true rfl)
  rw [lg_entry_eq]
  generalize (lg_sl ([.ref m0]) ++ List.replicate (1 - (lg_sl ([.ref m0])).length) Slot.unset).toArray = ls at hl ⊢
  have hl : lv_has ls 1 [(0, .ref m0)] := hl
  refine lv_aload_n hx hb dX12_peek_0 rfl (lv_at hl 0 rfl) ?_
  refine va_get (D := (dC, dI)) (ci := 12) (v := .int 0) (C := RX12) (T := TX12) (N := 32) hx hb hT iX12 hown hK hP 0 rfl rfl 12 (by decide) (hT _ w1094) (fun _ h9 => h9) rfl dX12_peek_1 ?_
  refine lv_aload_n hx hb dX12_peek_4 rfl (lv_at hl 0 rfl) ?_
  refine va_get (D := (dC, dI)) (ci := 12) (v := .int 0) (C := RX12) (T := TX12) (N := 32) hx hb hT iX12 hown hK hP 0 rfl rfl 11 (by decide) (hT _ w1093) (fun _ h9 => h9) rfl dX12_peek_5 ?_
  refine lv_icmp_ge (tgt := 38) hx hb dX12_peek_8 (by decide) (fun _ => ?_) (fun h => absurd (by decide) h)
  refine lv_aload_n hx hb dX12_peek_38 rfl (lv_at hl 0 rfl) ?_
  refine va_get (D := (dC, dI)) (ci := 12) (v := .int 0) (C := RX12) (T := TX12) (N := 32) hx hb hT iX12 hown hK hP 0 rfl rfl 12 (by decide) (hT _ w1094) (fun _ h9 => h9) rfl dX12_peek_39 ?_
  refine lv_aload_n hx hb dX12_peek_42 rfl (lv_at hl 0 rfl) ?_
  refine va_get (D := (dC, dI)) (ci := 12) (v := .int 0) (C := RX12) (T := TX12) (N := 32) hx hb hT iX12 hown hK hP 0 rfl rfl 11 (by decide) (hT _ w1093) (fun _ h9 => h9) rfl dX12_peek_43 ?_
  refine lv_icmp_ge (tgt := 65) hx hb dX12_peek_46 (by decide) (fun _ => ?_) (fun h => absurd (by decide) h)
  refine lv_iconst (v := (-1)) hx hb dX12_peek_65 (by decide) ?_
  exact W.iret (v := (-1)) hx hb hr (fun t ht hW => ⟨(-1), rfl, rfl, ht⟩) (fun q h => by cases h) dX12_peek_66

set_option maxHeartbeats 4000000 in
set_option maxRecDepth 100000 in
theorem m_tell (l : Launch) (dC : Nat → ClassId) (dI : Nat → Nat → Nat) (m0 : Nat) (g0 : Nat) (g1 : Nat) (g2 : Nat) (g3 : Nat) (g4 : Nat) (g9 : Nat) (g17 : Nat) (g18 : Nat) (g20 : Nat) (g21 : Nat) (g22 : Nat) (g23 : Nat) (g24 : Nat) (g25 : Nat) (g26 : Nat) (g27 : Nat) (g28 : Nat) (g29 : Nat) (g30 : Nat) (cS : ClassId) (f : Nat → Int32) (cV : ClassId) (fv : Nat → Int32) (cN : ClassId) (fn : Nat → Int64) (cO : ClassId) (fo : Nat → Int64) (sz : Nat) (k0 : Int32) : Met l yX12_tell (wT yX12_tell cX12_tell 5 (some .int)) ({ frames := 1, cells := 0, slots := 0, locals := 25 }) (pcW dC dI [.ref m0, .int k0] sz [(m0, .inr (12, [.ref g0, .ref g1, .ref g2, .ref g3, .ref g4, .int 0, .int 0, .int 0, .int 0, .ref g9, .int 0, .int 0, .int 0, .int 0, .int (-1), .int 0, .int 0, .ref g17, .ref g18, .int 0, .ref g20, .ref g21, .ref g22, .ref g23, .ref g24, .ref g25, .ref g26, .ref g27, .ref g28, .ref g29, .ref g30, .int 0])), (g0, .inl (cS, 266, .inl f)), (g1, .inl (cV, 266, .inl fv)), (g3, .inl (cN, 12, .inr (.inl fn))), (g4, .inl (cO, 12, .inr (.inl fo)))] [(cS, .int), (cV, .int), (cN, .long), (cO, .long)]) (va_Qi (fun (r : Int32) (_ : Unit) => r = (if k0 = 0 then 0 else (-3))) (fun _ _ => True) (va_A [(m0, .inr (12, [.ref g0, .ref g1, .ref g2, .ref g3, .ref g4, .int 0, .int 0, .int 0, .int 0, .ref g9, .int 0, .int 0, .int 0, .int 0, .int (-1), .int 0, .int 0, .ref g17, .ref g18, .int 0, .ref g20, .ref g21, .ref g22, .ref g23, .ref g24, .ref g25, .ref g26, .ref g27, .ref g28, .ref g29, .ref g30, .int 0])), (g0, .inl (cS, 266, .inl f)), (g1, .inl (cV, 266, .inl fv)), (g3, .inl (cN, 12, .inr (.inl fn))), (g4, .inl (cO, 12, .inr (.inl fo)))] sz)) 0 0 (va_A [(m0, .inr (12, [.ref g0, .ref g1, .ref g2, .ref g3, .ref g4, .int 0, .int 0, .int 0, .int 0, .ref g9, .int 0, .int 0, .int 0, .int 0, .int (-1), .int 0, .int 0, .ref g17, .ref g18, .int 0, .ref g20, .ref g21, .ref g22, .ref g23, .ref g24, .ref g25, .ref g26, .ref g27, .ref g28, .ref g29, .ref g30, .int 0])), (g0, .inl (cS, 266, .inl f)), (g1, .inl (cV, 266, .inl fv)), (g3, .inl (cN, 12, .inr (.inl fn))), (g4, .inl (cO, 12, .inr (.inl fo)))] sz) := by
  refine Met.ofW (cc := cX12_tell) (maxL := 5) (ret := (some .int)) (by decide) rfl ?_
  intro p e s m args below meth c s₁ B hml hv
  obtain ⟨rfl, hsz, hP, hK, hD0⟩ := hv
  have hx := B.exec
  have hb := B.bytes
  have hr := B.returns
  have hT : ∀ w ∈ TB, w.before [.ref m0, .int k0].toArray s = true := fun w h => atoms_spec (ws := wT yX12_tell cX12_tell 5 (some .int)) B.pre w (List.mem_cons_of_mem _ h)
  have hown : s.vm.findClass RX12 = some m.cls := findClass_of_methodNamed B.named
  have hlocks := B.notSynchronized
  subst hsz
  have hD := hD0.self (sz := s.heap.size)
  generalize hAe : va_A [(m0, .inr (12, [.ref g0, .ref g1, .ref g2, .ref g3, .ref g4, .int 0, .int 0, .int 0, .int 0, .ref g9, .int 0, .int 0, .int 0, .int 0, .int (-1), .int 0, .int 0, .ref g17, .ref g18, .int 0, .ref g20, .ref g21, .ref g22, .ref g23, .ref g24, .ref g25, .ref g26, .ref g27, .ref g28, .ref g29, .ref g30, .int 0])), (g0, .inl (cS, 266, .inl f)), (g1, .inl (cV, 266, .inl fv)), (g3, .inl (cN, 12, .inr (.inl fn))), (g4, .inl (cO, 12, .inr (.inl fo)))] s.heap.size = A at hD ⊢
  have hA : ∀ q : Nat, s.heap.size ≤ q → A q := fun q h => by rw [← hAe]; exact Or.inr h
  have hS : va_S A s.heap s.heap [] := va_S.rf
  have hP : va_P (dC, dI) vwCl [(m0, .inr (12, [.ref g0, .ref g1, .ref g2, .ref g3, .ref g4, .int 0, .int 0, .int 0, .int 0, .ref g9, .int 0, .int 0, .int 0, .int 0, .int (-1), .int 0, .int 0, .ref g17, .ref g18, .int 0, .ref g20, .ref g21, .ref g22, .ref g23, .ref g24, .ref g25, .ref g26, .ref g27, .ref g28, .ref g29, .ref g30, .int 0])), (g0, .inl (cS, 266, .inl f)), (g1, .inl (cV, 266, .inl fv)), (g3, .inl (cN, 12, .inr (.inl fn))), (g4, .inl (cO, 12, .inr (.inl fo)))] s.heap := hP
  have hl := lv_entry ([.ref m0, .int k0]) (n := 5) (Nat.le_of_ble_eq_true rfl)
  rw [lg_entry_eq]
  generalize (lg_sl ([.ref m0, .int k0]) ++ List.replicate (5 - (lg_sl ([.ref m0, .int k0])).length) Slot.unset).toArray = ls at hl ⊢
  have hl : lv_has ls 5 [(0, .ref m0), (1, .int k0)] := hl
  refine lv_aload_n hx hb dX12_tell_0 rfl (lv_at hl 0 rfl) ?_
  refine lv_iconst (v := 0) hx hb dX12_tell_1 (by decide) ?_
  refine va_put (D := (dC, dI)) (ci := 12) (v := .int 0) (ty := .int) (C := RX12) (T := TX12) (N := 32) hx hb hT iX12 tyX12 tyX12_ok nmX12 hown hK hP hD hS 0 rfl rfl 8 (by decide) (hT _ w1090) (fun _ h9 => h9) rfl (by decide +kernel) rfl rfl (Nat.le_of_ble_eq_true rfl) dX12_tell_2 (fun H locs hP hD hS => ?_)
  have hP : va_P (dC, dI) vwCl [(m0, .inr (12, [.ref g0, .ref g1, .ref g2, .ref g3, .ref g4, .int 0, .int 0, .int 0, .int 0, .ref g9, .int 0, .int 0, .int 0, .int 0, .int (-1), .int 0, .int 0, .ref g17, .ref g18, .int 0, .ref g20, .ref g21, .ref g22, .ref g23, .ref g24, .ref g25, .ref g26, .ref g27, .ref g28, .ref g29, .ref g30, .int 0])), (g0, .inl (cS, 266, .inl f)), (g1, .inl (cV, 266, .inl fv)), (g3, .inl (cN, 12, .inr (.inl fn))), (g4, .inl (cO, 12, .inr (.inl fo)))] H := hP
  have hD : va_D A [(m0, .inr (12, [.ref g0, .ref g1, .ref g2, .ref g3, .ref g4, .int 0, .int 0, .int 0, .int 0, .ref g9, .int 0, .int 0, .int 0, .int 0, .int (-1), .int 0, .int 0, .ref g17, .ref g18, .int 0, .ref g20, .ref g21, .ref g22, .ref g23, .ref g24, .ref g25, .ref g26, .ref g27, .ref g28, .ref g29, .ref g30, .int 0])), (g0, .inl (cS, 266, .inl f)), (g1, .inl (cV, 266, .inl fv)), (g3, .inl (cN, 12, .inr (.inl fn))), (g4, .inl (cO, 12, .inr (.inl fo)))] := hD
  refine lv_iload_n hx hb dX12_tell_5 rfl (lv_at hl 1 rfl) ?_
  refine lv_i2l hx hb dX12_tell_6 rfl ?_
  refine lv_topl (fun z_1 ez_1 => ?_)
  refine lv_lconst (v := 0) hx hb dX12_tell_7 (by decide) ?_
  refine lv_aload_n hx hb dX12_tell_8 rfl (lv_at hl 0 rfl) ?_
  refine va_get (D := (dC, dI)) (ci := 12) (v := .int 0) (C := RX12) (T := TX12) (N := 32) hx hb hT iX12 hown hK hP 0 rfl rfl 10 (by decide) (hT _ w1092) (fun _ h9 => h9) rfl dX12_tell_9 ?_
  refine lv_i2l (v := 0) hx hb dX12_tell_12 (by decide) ?_
  have hPc := hP.sub (ws' := []) [] rfl
  have hDc := hD.sub (ws' := []) [] (by decide) rfl
  have hKc := hK.sub (tys' := []) [] rfl
  refine vp_callSi (va_Run.run (va_runS (As := [.long z_1, .long 0, .long 0]) (rest := []) ⟨hx, hb, hml, hown, hT⟩ (m_isIn l dC dI H.size z_1 0 0) (va_cwS 3 hT (gS w1187 w1188 w14 w1189) rfl rfl rfl (by decide +kernel) ⟨(Nat.le_of_ble_eq_true rfl), (Nat.le_of_ble_eq_true rfl)⟩) ⟨pcW.blind, pcW.pre hPc hKc hDc⟩ rfl rfl hl.1 rfl (lv_room (Nat.le_of_ble_eq_true rfl)) dX12_tell_13 ⟨(Nat.le_of_ble_eq_true rfl), (Nat.le_of_ble_eq_true rfl)⟩)) (fun r_13 hr_13 => ?_)
  obtain rfl : r_13 = (if 0 ≤ z_1 ∧ z_1 ≤ 0 then 1 else 0) := hr_13
  refine lv_if_ne (tgt := 22) hx hb dX12_tell_16 (by decide) (fun c_16 => ?_) (fun c_16 => ?_)
  · obtain rfl : k0 = 0 := mt_b ez_1 c_16
    refine lv_aload_n hx hb dX12_tell_22 rfl (lv_at hl 0 rfl) ?_
    refine lv_iconst (v := 0) hx hb dX12_tell_23 (by decide) ?_
    refine va_put (D := (dC, dI)) (ci := 12) (v := .int 0) (ty := .int) (C := RX12) (T := TX12) (N := 32) hx hb hT iX12 tyX12 tyX12_ok nmX12 hown hK hP hD hS 0 rfl rfl 10 (by decide) (hT _ w1092) (fun _ h9 => h9) rfl (by decide +kernel) rfl rfl (Nat.le_of_ble_eq_true rfl) dX12_tell_24 (fun H locs hP hD hS => ?_)
    have hP : va_P (dC, dI) vwCl [(m0, .inr (12, [.ref g0, .ref g1, .ref g2, .ref g3, .ref g4, .int 0, .int 0, .int 0, .int 0, .ref g9, .int 0, .int 0, .int 0, .int 0, .int (-1), .int 0, .int 0, .ref g17, .ref g18, .int 0, .ref g20, .ref g21, .ref g22, .ref g23, .ref g24, .ref g25, .ref g26, .ref g27, .ref g28, .ref g29, .ref g30, .int 0])), (g0, .inl (cS, 266, .inl f)), (g1, .inl (cV, 266, .inl fv)), (g3, .inl (cN, 12, .inr (.inl fn))), (g4, .inl (cO, 12, .inr (.inl fo)))] H := hP
    have hD : va_D A [(m0, .inr (12, [.ref g0, .ref g1, .ref g2, .ref g3, .ref g4, .int 0, .int 0, .int 0, .int 0, .ref g9, .int 0, .int 0, .int 0, .int 0, .int (-1), .int 0, .int 0, .ref g17, .ref g18, .int 0, .ref g20, .ref g21, .ref g22, .ref g23, .ref g24, .ref g25, .ref g26, .ref g27, .ref g28, .ref g29, .ref g30, .int 0])), (g0, .inl (cS, 266, .inl f)), (g1, .inl (cV, 266, .inl fv)), (g3, .inl (cN, 12, .inr (.inl fn))), (g4, .inl (cO, 12, .inr (.inl fo)))] := hD
    refine lv_aload_n hx hb dX12_tell_27 rfl (lv_at hl 0 rfl) ?_
    refine lv_iload_n hx hb dX12_tell_28 rfl (lv_at hl 1 rfl) ?_
    refine va_put (D := (dC, dI)) (ci := 12) (v := .int 0) (ty := .int) (C := RX12) (T := TX12) (N := 32) hx hb hT iX12 tyX12 tyX12_ok nmX12 hown hK hP hD hS 0 rfl rfl 11 (by decide) (hT _ w1093) (fun _ h9 => h9) rfl (by decide +kernel) rfl rfl (Nat.le_of_ble_eq_true rfl) dX12_tell_29 (fun H locs hP hD hS => ?_)
    have hP : va_P (dC, dI) vwCl [(m0, .inr (12, [.ref g0, .ref g1, .ref g2, .ref g3, .ref g4, .int 0, .int 0, .int 0, .int 0, .ref g9, .int 0, .int 0, .int 0, .int 0, .int (-1), .int 0, .int 0, .ref g17, .ref g18, .int 0, .ref g20, .ref g21, .ref g22, .ref g23, .ref g24, .ref g25, .ref g26, .ref g27, .ref g28, .ref g29, .ref g30, .int 0])), (g0, .inl (cS, 266, .inl f)), (g1, .inl (cV, 266, .inl fv)), (g3, .inl (cN, 12, .inr (.inl fn))), (g4, .inl (cO, 12, .inr (.inl fo)))] H := hP
    have hD : va_D A [(m0, .inr (12, [.ref g0, .ref g1, .ref g2, .ref g3, .ref g4, .int 0, .int 0, .int 0, .int 0, .ref g9, .int 0, .int 0, .int 0, .int 0, .int (-1), .int 0, .int 0, .ref g17, .ref g18, .int 0, .ref g20, .ref g21, .ref g22, .ref g23, .ref g24, .ref g25, .ref g26, .ref g27, .ref g28, .ref g29, .ref g30, .int 0])), (g0, .inl (cS, 266, .inl f)), (g1, .inl (cV, 266, .inl fv)), (g3, .inl (cN, 12, .inr (.inl fn))), (g4, .inl (cO, 12, .inr (.inl fo)))] := hD
    refine lv_aload_n hx hb dX12_tell_32 rfl (lv_at hl 0 rfl) ?_
    refine lv_iconst (v := 0) hx hb dX12_tell_33 (by decide) ?_
    refine va_put (D := (dC, dI)) (ci := 12) (v := .int 0) (ty := .int) (C := RX12) (T := TX12) (N := 32) hx hb hT iX12 tyX12 tyX12_ok nmX12 hown hK hP hD hS 0 rfl rfl 12 (by decide) (hT _ w1094) (fun _ h9 => h9) rfl (by decide +kernel) rfl rfl (Nat.le_of_ble_eq_true rfl) dX12_tell_34 (fun H locs hP hD hS => ?_)
    have hP : va_P (dC, dI) vwCl [(m0, .inr (12, [.ref g0, .ref g1, .ref g2, .ref g3, .ref g4, .int 0, .int 0, .int 0, .int 0, .ref g9, .int 0, .int 0, .int 0, .int 0, .int (-1), .int 0, .int 0, .ref g17, .ref g18, .int 0, .ref g20, .ref g21, .ref g22, .ref g23, .ref g24, .ref g25, .ref g26, .ref g27, .ref g28, .ref g29, .ref g30, .int 0])), (g0, .inl (cS, 266, .inl f)), (g1, .inl (cV, 266, .inl fv)), (g3, .inl (cN, 12, .inr (.inl fn))), (g4, .inl (cO, 12, .inr (.inl fo)))] H := hP
    have hD : va_D A [(m0, .inr (12, [.ref g0, .ref g1, .ref g2, .ref g3, .ref g4, .int 0, .int 0, .int 0, .int 0, .ref g9, .int 0, .int 0, .int 0, .int 0, .int (-1), .int 0, .int 0, .ref g17, .ref g18, .int 0, .ref g20, .ref g21, .ref g22, .ref g23, .ref g24, .ref g25, .ref g26, .ref g27, .ref g28, .ref g29, .ref g30, .int 0])), (g0, .inl (cS, 266, .inl f)), (g1, .inl (cV, 266, .inl fv)), (g3, .inl (cN, 12, .inr (.inl fn))), (g4, .inl (cO, 12, .inr (.inl fo)))] := hD
    refine lv_aload_n hx hb dX12_tell_37 rfl (lv_at hl 0 rfl) ?_
    refine lv_iconst (v := 0) hx hb dX12_tell_38 (by decide) ?_
    refine va_put (D := (dC, dI)) (ci := 12) (v := .int 0) (ty := .int) (C := RX12) (T := TX12) (N := 32) hx hb hT iX12 tyX12 tyX12_ok nmX12 hown hK hP hD hS 0 rfl rfl 13 (by decide) (hT _ w1095) (fun _ h9 => h9) rfl (by decide +kernel) rfl rfl (Nat.le_of_ble_eq_true rfl) dX12_tell_39 (fun H locs hP hD hS => ?_)
    have hP : va_P (dC, dI) vwCl [(m0, .inr (12, [.ref g0, .ref g1, .ref g2, .ref g3, .ref g4, .int 0, .int 0, .int 0, .int 0, .ref g9, .int 0, .int 0, .int 0, .int 0, .int (-1), .int 0, .int 0, .ref g17, .ref g18, .int 0, .ref g20, .ref g21, .ref g22, .ref g23, .ref g24, .ref g25, .ref g26, .ref g27, .ref g28, .ref g29, .ref g30, .int 0])), (g0, .inl (cS, 266, .inl f)), (g1, .inl (cV, 266, .inl fv)), (g3, .inl (cN, 12, .inr (.inl fn))), (g4, .inl (cO, 12, .inr (.inl fo)))] H := hP
    have hD : va_D A [(m0, .inr (12, [.ref g0, .ref g1, .ref g2, .ref g3, .ref g4, .int 0, .int 0, .int 0, .int 0, .ref g9, .int 0, .int 0, .int 0, .int 0, .int (-1), .int 0, .int 0, .ref g17, .ref g18, .int 0, .ref g20, .ref g21, .ref g22, .ref g23, .ref g24, .ref g25, .ref g26, .ref g27, .ref g28, .ref g29, .ref g30, .int 0])), (g0, .inl (cS, 266, .inl f)), (g1, .inl (cV, 266, .inl fv)), (g3, .inl (cN, 12, .inr (.inl fn))), (g4, .inl (cO, 12, .inr (.inl fo)))] := hD
    refine lv_aload_n hx hb dX12_tell_42 rfl (lv_at hl 0 rfl) ?_
    refine lv_iconst (v := (-1)) hx hb dX12_tell_43 (by decide) ?_
    refine va_put (D := (dC, dI)) (ci := 12) (v := .int (-1)) (ty := .int) (C := RX12) (T := TX12) (N := 32) hx hb hT iX12 tyX12 tyX12_ok nmX12 hown hK hP hD hS 0 rfl rfl 14 (by decide) (hT _ w1096) (fun _ h9 => h9) rfl (by decide +kernel) rfl rfl (Nat.le_of_ble_eq_true rfl) dX12_tell_44 (fun H locs hP hD hS => ?_)
    have hP : va_P (dC, dI) vwCl [(m0, .inr (12, [.ref g0, .ref g1, .ref g2, .ref g3, .ref g4, .int 0, .int 0, .int 0, .int 0, .ref g9, .int 0, .int 0, .int 0, .int 0, .int (-1), .int 0, .int 0, .ref g17, .ref g18, .int 0, .ref g20, .ref g21, .ref g22, .ref g23, .ref g24, .ref g25, .ref g26, .ref g27, .ref g28, .ref g29, .ref g30, .int 0])), (g0, .inl (cS, 266, .inl f)), (g1, .inl (cV, 266, .inl fv)), (g3, .inl (cN, 12, .inr (.inl fn))), (g4, .inl (cO, 12, .inr (.inl fo)))] H := hP
    have hD : va_D A [(m0, .inr (12, [.ref g0, .ref g1, .ref g2, .ref g3, .ref g4, .int 0, .int 0, .int 0, .int 0, .ref g9, .int 0, .int 0, .int 0, .int 0, .int (-1), .int 0, .int 0, .ref g17, .ref g18, .int 0, .ref g20, .ref g21, .ref g22, .ref g23, .ref g24, .ref g25, .ref g26, .ref g27, .ref g28, .ref g29, .ref g30, .int 0])), (g0, .inl (cS, 266, .inl f)), (g1, .inl (cV, 266, .inl fv)), (g3, .inl (cN, 12, .inr (.inl fn))), (g4, .inl (cO, 12, .inr (.inl fo)))] := hD
    refine lv_aload_n hx hb dX12_tell_47 rfl (lv_at hl 0 rfl) ?_
    refine lv_iconst (v := 0) hx hb dX12_tell_48 (by decide) ?_
    refine va_put (D := (dC, dI)) (ci := 12) (v := .int 0) (ty := .int) (C := RX12) (T := TX12) (N := 32) hx hb hT iX12 tyX12 tyX12_ok nmX12 hown hK hP hD hS 0 rfl rfl 15 (by decide) (hT _ w1097) (fun _ h9 => h9) rfl (by decide +kernel) rfl rfl (Nat.le_of_ble_eq_true rfl) dX12_tell_49 (fun H locs hP hD hS => ?_)
    have hP : va_P (dC, dI) vwCl [(m0, .inr (12, [.ref g0, .ref g1, .ref g2, .ref g3, .ref g4, .int 0, .int 0, .int 0, .int 0, .ref g9, .int 0, .int 0, .int 0, .int 0, .int (-1), .int 0, .int 0, .ref g17, .ref g18, .int 0, .ref g20, .ref g21, .ref g22, .ref g23, .ref g24, .ref g25, .ref g26, .ref g27, .ref g28, .ref g29, .ref g30, .int 0])), (g0, .inl (cS, 266, .inl f)), (g1, .inl (cV, 266, .inl fv)), (g3, .inl (cN, 12, .inr (.inl fn))), (g4, .inl (cO, 12, .inr (.inl fo)))] H := hP
    have hD : va_D A [(m0, .inr (12, [.ref g0, .ref g1, .ref g2, .ref g3, .ref g4, .int 0, .int 0, .int 0, .int 0, .ref g9, .int 0, .int 0, .int 0, .int 0, .int (-1), .int 0, .int 0, .ref g17, .ref g18, .int 0, .ref g20, .ref g21, .ref g22, .ref g23, .ref g24, .ref g25, .ref g26, .ref g27, .ref g28, .ref g29, .ref g30, .int 0])), (g0, .inl (cS, 266, .inl f)), (g1, .inl (cV, 266, .inl fv)), (g3, .inl (cN, 12, .inr (.inl fn))), (g4, .inl (cO, 12, .inr (.inl fo)))] := hD
    refine lv_aload_n hx hb dX12_tell_52 rfl (lv_at hl 0 rfl) ?_
    refine va_get (D := (dC, dI)) (ci := 12) (v := .int 0) (C := RX12) (T := TX12) (N := 32) hx hb hT iX12 hown hK hP 0 rfl rfl 5 (by decide) (hT _ w1087) (fun _ h9 => h9) rfl dX12_tell_53 ?_
    refine lv_istore_n (lv' := [(2, .int 0), (0, .ref m0), (1, .int 0)]) hx hb dX12_tell_56 rfl hl (by decide) rfl (fun ls hl => ?_)
    refine lv_aload_n hx hb dX12_tell_57 rfl (lv_at hl 1 rfl) ?_
    refine va_get (D := (dC, dI)) (ci := 12) (v := .int 0) (C := RX12) (T := TX12) (N := 32) hx hb hT iX12 hown hK hP 0 rfl rfl 6 (by decide) (hT _ w1088) (fun _ h9 => h9) rfl dX12_tell_58 ?_
    refine lv_istore_n (lv' := [(3, .int 0), (2, .int 0), (0, .ref m0), (1, .int 0)]) hx hb dX12_tell_61 rfl hl (by decide) rfl (fun ls hl => ?_)
    refine lv_iconst (v := 0) hx hb dX12_tell_62 (by decide) ?_
    refine lv_istore (lv' := [(4, .int 0), (3, .int 0), (2, .int 0), (0, .ref m0), (1, .int 0)]) hx hb dX12_tell_63 hl (by decide) rfl (fun ls hl => ?_)
    have loop : ∀ (n i : Nat), i + n = 266 → ∀ (f_g1 : Nat → Int32) (H : Heap) (locs : List Loc), va_P (dC, dI) vwCl [(m0, .inr (12, [.ref g0, .ref g1, .ref g2, .ref g3, .ref g4, .int 0, .int 0, .int 0, .int 0, .ref g9, .int 0, .int 0, .int 0, .int 0, .int (-1), .int 0, .int 0, .ref g17, .ref g18, .int 0, .ref g20, .ref g21, .ref g22, .ref g23, .ref g24, .ref g25, .ref g26, .ref g27, .ref g28, .ref g29, .ref g30, .int 0])), (g0, .inl (cS, 266, .inl f)), (g1, .inl (cV, 266, .inl f_g1)), (g3, .inl (cN, 12, .inr (.inl fn))), (g4, .inl (cO, 12, .inr (.inl fo)))] H → va_D A [(m0, .inr (12, [.ref g0, .ref g1, .ref g2, .ref g3, .ref g4, .int 0, .int 0, .int 0, .int 0, .ref g9, .int 0, .int 0, .int 0, .int 0, .int (-1), .int 0, .int 0, .ref g17, .ref g18, .int 0, .ref g20, .ref g21, .ref g22, .ref g23, .ref g24, .ref g25, .ref g26, .ref g27, .ref g28, .ref g29, .ref g30, .int 0])), (g0, .inl (cS, 266, .inl f)), (g1, .inl (cV, 266, .inl f_g1)), (g3, .inl (cN, 12, .inr (.inl fn))), (g4, .inl (cO, 12, .inr (.inl fo)))] → va_S A s.heap H locs → ∀ ls : Array Slot, lv_has ls 5 [(4, .int (nI i)), (3, .int 0), (2, .int 0), (0, .ref m0), (1, .int 0)] → W p l e (headSpec (wT yX12_tell cX12_tell 5 (some .int)) { frames := 1, cells := 0, slots := 0, locals := 25 }).room s m [.ref m0, .int 0].toArray below meth c H locs 0 0 (MQ below (va_Qi (fun (r : Int32) (_ : Unit) => r = (if 0 = 0 then 0 else (-3))) (fun _ _ => True) A) [.ref m0, .int 0].toArray s 0 0 A) (F0 m 65 ls []) := by
      intro n
      induction n with
      | zero =>
        intro i hi f_g1 H locs hP hD hS ls hl
        obtain rfl : i = 266 := by omega
        refine lv_iload hx hb dX12_tell_65 (lv_at hl 0 rfl) ?_
        refine lv_sipush (v := 266) hx hb dX12_tell_67 (by decide) ?_
        refine lv_icmp_ge (tgt := 93) hx hb dX12_tell_70 (by decide) (fun _ => ?_) (fun h => absurd (by decide) h)
        refine lv_iconst (v := 0) hx hb dX12_tell_93 (by decide) ?_
        refine lv_istore (lv' := [(4, .int 0), (3, .int 0), (2, .int 0), (0, .ref m0), (1, .int 0)]) hx hb dX12_tell_94 hl (by decide) rfl (fun ls hl => ?_)
        have loop : ∀ (n i : Nat), i + n = 12 → ∀ (f_g4 : Nat → Int64) (H : Heap) (locs : List Loc), va_P (dC, dI) vwCl [(m0, .inr (12, [.ref g0, .ref g1, .ref g2, .ref g3, .ref g4, .int 0, .int 0, .int 0, .int 0, .ref g9, .int 0, .int 0, .int 0, .int 0, .int (-1), .int 0, .int 0, .ref g17, .ref g18, .int 0, .ref g20, .ref g21, .ref g22, .ref g23, .ref g24, .ref g25, .ref g26, .ref g27, .ref g28, .ref g29, .ref g30, .int 0])), (g0, .inl (cS, 266, .inl f)), (g1, .inl (cV, 266, .inl f_g1)), (g3, .inl (cN, 12, .inr (.inl fn))), (g4, .inl (cO, 12, .inr (.inl f_g4)))] H → va_D A [(m0, .inr (12, [.ref g0, .ref g1, .ref g2, .ref g3, .ref g4, .int 0, .int 0, .int 0, .int 0, .ref g9, .int 0, .int 0, .int 0, .int 0, .int (-1), .int 0, .int 0, .ref g17, .ref g18, .int 0, .ref g20, .ref g21, .ref g22, .ref g23, .ref g24, .ref g25, .ref g26, .ref g27, .ref g28, .ref g29, .ref g30, .int 0])), (g0, .inl (cS, 266, .inl f)), (g1, .inl (cV, 266, .inl f_g1)), (g3, .inl (cN, 12, .inr (.inl fn))), (g4, .inl (cO, 12, .inr (.inl f_g4)))] → va_S A s.heap H locs → ∀ ls : Array Slot, lv_has ls 5 [(4, .int (nI i)), (3, .int 0), (2, .int 0), (0, .ref m0), (1, .int 0)] → W p l e (headSpec (wT yX12_tell cX12_tell 5 (some .int)) { frames := 1, cells := 0, slots := 0, locals := 25 }).room s m [.ref m0, .int 0].toArray below meth c H locs 0 0 (MQ below (va_Qi (fun (r : Int32) (_ : Unit) => r = (if 0 = 0 then 0 else (-3))) (fun _ _ => True) A) [.ref m0, .int 0].toArray s 0 0 A) (F0 m 96 ls []) := by
          intro n
          induction n with
          | zero =>
            intro i hi f_g4 H locs hP hD hS ls hl
            obtain rfl : i = 12 := by omega
            refine lv_iload hx hb dX12_tell_96 (lv_at hl 0 rfl) ?_
            refine lv_bipush (v := 12) hx hb dX12_tell_98 (by decide) ?_
            refine lv_icmp_ge (tgt := 123) hx hb dX12_tell_100 (by decide) (fun _ => ?_) (fun h => absurd (by decide) h)
            refine lv_aload_n hx hb dX12_tell_123 rfl (lv_at hl 3 rfl) ?_
            have hPc := hP.sub (ws' := [(m0, .inr (12, [.ref g0, .ref g1, .ref g2, .ref g3, .ref g4, .int 0, .int 0, .int 0, .int 0, .ref g9, .int 0, .int 0, .int 0, .int 0, .int (-1), .int 0, .int 0, .ref g17, .ref g18, .int 0, .ref g20, .ref g21, .ref g22, .ref g23, .ref g24, .ref g25, .ref g26, .ref g27, .ref g28, .ref g29, .ref g30, .int 0])), (g0, .inl (cS, 266, .inl f))]) [0, 1] rfl
            have hDc := hD.sub (ws' := [(m0, .inr (12, [.ref g0, .ref g1, .ref g2, .ref g3, .ref g4, .int 0, .int 0, .int 0, .int 0, .ref g9, .int 0, .int 0, .int 0, .int 0, .int (-1), .int 0, .int 0, .ref g17, .ref g18, .int 0, .ref g20, .ref g21, .ref g22, .ref g23, .ref g24, .ref g25, .ref g26, .ref g27, .ref g28, .ref g29, .ref g30, .int 0])), (g0, .inl (cS, 266, .inl f))]) [0, 1] (by decide) rfl
            have hKc := hK.sub (tys' := [(cS, .int)]) [0] rfl
            have hFc := va_free (wc := [(m0, .inr (12, [.ref g0, .ref g1, .ref g2, .ref g3, .ref g4, .int 0, .int 0, .int 0, .int 0, .ref g9, .int 0, .int 0, .int 0, .int 0, .int (-1), .int 0, .int 0, .ref g17, .ref g18, .int 0, .ref g20, .ref g21, .ref g22, .ref g23, .ref g24, .ref g25, .ref g26, .ref g27, .ref g28, .ref g29, .ref g30, .int 0])), (g0, .inl (cS, 266, .inl f))]) hD hS hA [0, 1] rfl
            refine va_callv (va_runV (As := []) (rest := []) ⟨hx, hb, hml, hown, hT⟩ (m_plain l dC dI m0 g0 g1 g2 g3 g4 g9 g17 g18 g20 g21 g22 g23 g24 g25 g26 g27 g28 g29 g30 cS f H.size) (cwV 0 hT (gV w1077 w1079 ws54 w14 w1080) rfl rfl rfl (by decide +kernel) ⟨(Nat.le_of_ble_eq_true rfl), (Nat.le_of_ble_eq_true rfl)⟩) ⟨pcW.blind, va_recv hKc hPc (ci := 12) (q0 := 0) rfl rfl, pcW.pre hPc hKc hDc⟩ rfl rfl hl.1 rfl (lv_room (Nat.le_of_ble_eq_true rfl)) dX12_tell_124 ⟨(Nat.le_of_ble_eq_true rfl), (Nat.le_of_ble_eq_true rfl)⟩) hS (fun q _ h => hFc q h) hFc (fun u t H1 locs ht hvm hw hB hz1 hk1 hS => ?_)
            obtain ⟨f2_2, hx_3, hx_4, hP1, hK1, hD1⟩ := hB
            rw [ht] at hP1
            have hK1 := va_K.moved hvm.symm hK1
            obtain ⟨hP, hD⟩ := va_join (wr := [(g1, .inl (cV, 266, .inl f_g1)), (g3, .inl (cN, 12, .inr (.inl fn))), (g4, .inl (cO, 12, .inr (.inl f_g4)))]) (w1 := [(m0, .inr (12, [.ref g0, .ref g1, .ref g2, .ref g3, .ref g4, .int 0, .int 0, .int 0, .int 0, .ref g9, .int 0, .int 0, .int 0, .int 0, .int (-1), .int 0, .int 0, .ref g17, .ref g18, .int 0, .ref g20, .ref g21, .ref g22, .ref g23, .ref g24, .ref g25, .ref g26, .ref g27, .ref g28, .ref g29, .ref g30, .int 0])), (g0, .inl (cS, 266, .inl f2_2))]) hP hD [0, 1] [2, 3, 4] rfl rfl (by decide) (by decide) hk1 hFc hP1 hD1
            have hK := hK.app hK1
            generalize H1 = H at hP hS ⊢
            have hP : va_P (dC, dI) vwCl [(g1, .inl (cV, 266, .inl f_g1)), (g3, .inl (cN, 12, .inr (.inl fn))), (g4, .inl (cO, 12, .inr (.inl f_g4))), (m0, .inr (12, [.ref g0, .ref g1, .ref g2, .ref g3, .ref g4, .int 0, .int 0, .int 0, .int 0, .ref g9, .int 0, .int 0, .int 0, .int 0, .int (-1), .int 0, .int 0, .ref g17, .ref g18, .int 0, .ref g20, .ref g21, .ref g22, .ref g23, .ref g24, .ref g25, .ref g26, .ref g27, .ref g28, .ref g29, .ref g30, .int 0])), (g0, .inl (cS, 266, .inl f2_2))] H := hP
            have hD : va_D A [(g1, .inl (cV, 266, .inl f_g1)), (g3, .inl (cN, 12, .inr (.inl fn))), (g4, .inl (cO, 12, .inr (.inl f_g4))), (m0, .inr (12, [.ref g0, .ref g1, .ref g2, .ref g3, .ref g4, .int 0, .int 0, .int 0, .int 0, .ref g9, .int 0, .int 0, .int 0, .int 0, .int (-1), .int 0, .int 0, .ref g17, .ref g18, .int 0, .ref g20, .ref g21, .ref g22, .ref g23, .ref g24, .ref g25, .ref g26, .ref g27, .ref g28, .ref g29, .ref g30, .int 0])), (g0, .inl (cS, 266, .inl f2_2))] := hD
            have hK : va_K (dC, dI) vwCl [(cS, .int), (cV, .int), (cN, .long), (cO, .long), (cS, .int)] s := hK
            refine W.widen (k := 0) (n := 0) (Nat.le_of_ble_eq_true rfl) (Nat.le_of_ble_eq_true rfl) ?_
            refine lv_aload_n hx hb dX12_tell_127 rfl (lv_at hl 3 rfl) ?_
            refine va_get (D := (dC, dI)) (ci := 12) (v := .int 0) (C := RX12) (T := TX12) (N := 32) hx hb hT iX12 hown hK hP 3 rfl rfl 13 (by decide) (hT _ w1095) (fun _ h9 => h9) rfl dX12_tell_128 ?_
            refine lv_if_ne (tgt := 149) hx hb dX12_tell_131 (by decide) (fun h => absurd (by decide) h) (fun _ => ?_)
            refine lv_aload_n hx hb dX12_tell_134 rfl (lv_at hl 3 rfl) ?_
            have hPc := hP.sub (ws' := [(m0, .inr (12, [.ref g0, .ref g1, .ref g2, .ref g3, .ref g4, .int 0, .int 0, .int 0, .int 0, .ref g9, .int 0, .int 0, .int 0, .int 0, .int (-1), .int 0, .int 0, .ref g17, .ref g18, .int 0, .ref g20, .ref g21, .ref g22, .ref g23, .ref g24, .ref g25, .ref g26, .ref g27, .ref g28, .ref g29, .ref g30, .int 0]))]) [3] rfl
            have hDc := hD.sub (ws' := [(m0, .inr (12, [.ref g0, .ref g1, .ref g2, .ref g3, .ref g4, .int 0, .int 0, .int 0, .int 0, .ref g9, .int 0, .int 0, .int 0, .int 0, .int (-1), .int 0, .int 0, .ref g17, .ref g18, .int 0, .ref g20, .ref g21, .ref g22, .ref g23, .ref g24, .ref g25, .ref g26, .ref g27, .ref g28, .ref g29, .ref g30, .int 0]))]) [3] (by decide) rfl
            have hKc := hK.sub (tys' := []) [] rfl
            refine vp_callSi (va_Run.run (va_runV (As := []) (rest := []) ⟨hx, hb, hml, hown, hT⟩ (m_peek l dC dI m0 g0 g1 g2 g3 g4 g9 g17 g18 g20 g21 g22 g23 g24 g25 g26 g27 g28 g29 g30 H.size) (cwV 0 hT (gV w1190 w1192 ws55 w14 w1193) rfl rfl rfl (by decide +kernel) ⟨(Nat.le_of_ble_eq_true rfl), (Nat.le_of_ble_eq_true rfl)⟩) ⟨pcW.blind, va_recv hKc hPc (ci := 12) (q0 := 0) rfl rfl, pcW.pre hPc hKc hDc⟩ rfl rfl hl.1 rfl (lv_room (Nat.le_of_ble_eq_true rfl)) dX12_tell_135 ⟨(Nat.le_of_ble_eq_true rfl), (Nat.le_of_ble_eq_true rfl)⟩)) (fun r_135 hr_135 => ?_)
            obtain rfl : r_135 = (-1) := hr_135
            refine lv_iconst (v := (-1)) hx hb dX12_tell_138 (by decide) ?_
            refine lv_icmp_eq (tgt := 149) hx hb dX12_tell_139 (by decide) (fun _ => ?_) (fun h => absurd (by decide) h)
            refine lv_aload_n hx hb dX12_tell_149 rfl (lv_at hl 3 rfl) ?_
            refine va_get (D := (dC, dI)) (ci := 12) (v := .int 0) (C := RX12) (T := TX12) (N := 32) hx hb hT iX12 hown hK hP 3 rfl rfl 13 (by decide) (hT _ w1095) (fun _ h9 => h9) rfl dX12_tell_150 ?_
            refine lv_if_ne (tgt := 168) hx hb dX12_tell_153 (by decide) (fun h => absurd (by decide) h) (fun _ => ?_)
            refine lv_aload_n hx hb dX12_tell_156 rfl (lv_at hl 3 rfl) ?_
            refine lv_iconst (v := 0) hx hb dX12_tell_157 (by decide) ?_
            refine va_put (D := (dC, dI)) (ci := 12) (v := .int 0) (ty := .int) (C := RX12) (T := TX12) (N := 32) hx hb hT iX12 tyX12 tyX12_ok nmX12 hown hK hP hD hS 3 rfl rfl 7 (by decide) (hT _ w1089) (fun _ h9 => h9) rfl (by decide +kernel) rfl rfl (Nat.le_of_ble_eq_true rfl) dX12_tell_158 (fun H locs hP hD hS => ?_)
            have hP : va_P (dC, dI) vwCl [(g1, .inl (cV, 266, .inl f_g1)), (g3, .inl (cN, 12, .inr (.inl fn))), (g4, .inl (cO, 12, .inr (.inl f_g4))), (m0, .inr (12, [.ref g0, .ref g1, .ref g2, .ref g3, .ref g4, .int 0, .int 0, .int 0, .int 0, .ref g9, .int 0, .int 0, .int 0, .int 0, .int (-1), .int 0, .int 0, .ref g17, .ref g18, .int 0, .ref g20, .ref g21, .ref g22, .ref g23, .ref g24, .ref g25, .ref g26, .ref g27, .ref g28, .ref g29, .ref g30, .int 0])), (g0, .inl (cS, 266, .inl f2_2))] H := hP
            have hD : va_D A [(g1, .inl (cV, 266, .inl f_g1)), (g3, .inl (cN, 12, .inr (.inl fn))), (g4, .inl (cO, 12, .inr (.inl f_g4))), (m0, .inr (12, [.ref g0, .ref g1, .ref g2, .ref g3, .ref g4, .int 0, .int 0, .int 0, .int 0, .ref g9, .int 0, .int 0, .int 0, .int 0, .int (-1), .int 0, .int 0, .ref g17, .ref g18, .int 0, .ref g20, .ref g21, .ref g22, .ref g23, .ref g24, .ref g25, .ref g26, .ref g27, .ref g28, .ref g29, .ref g30, .int 0])), (g0, .inl (cS, 266, .inl f2_2))] := hD
            refine lv_aload_n hx hb dX12_tell_161 rfl (lv_at hl 3 rfl) ?_
            refine va_get (D := (dC, dI)) (ci := 12) (v := .ref g0) (C := RX12) (T := TX12) (N := 32) hx hb hT iX12 hown hK hP 3 rfl rfl 0 (by decide) (hT _ w1082) (fun _ h9 => h9) rfl dX12_tell_162 ?_
            refine lv_iconst (v := 0) hx hb dX12_tell_165 (by decide) ?_
            refine va_iald hx hb hK hP 4 0 rfl rfl (by unfold vp_in; decide) dX12_tell_166 ?_
            refine lv_topi (fun x_5 ex_5 => ?_)
            obtain rfl : x_5 = 0 := ex_5.trans hx_3
            refine W.widen (k := 0) (n := 0) (Nat.le_of_ble_eq_true rfl) (Nat.le_of_ble_eq_true rfl) ?_
            exact W.iret (v := 0) hx hb hr (fun t ht hW => ⟨⟨0, (), rfl, (by decide), trivial⟩, hS.F ht⟩) hS.2.2 dX12_tell_167
          | succ n ih =>
            intro i hi f_g4 H locs hP hD hS ls hl
            have hlt : i < 12 := by omega
            refine lv_iload hx hb dX12_tell_96 (lv_at hl 0 rfl) ?_
            refine lv_bipush (v := 12) hx hb dX12_tell_98 (by decide) ?_
            refine lv_icmp_ge (tgt := 123) hx hb dX12_tell_100 (by decide) (fun h => absurd h (nI_ge (a := i) (b := 12) hlt (by decide))) (fun _ => ?_)
            refine lv_aload_n hx hb dX12_tell_103 rfl (lv_at hl 3 rfl) ?_
            refine va_get (D := (dC, dI)) (ci := 12) (v := .ref g4) (C := RX12) (T := TX12) (N := 32) hx hb hT iX12 hown hK hP 0 rfl rfl 4 (by decide) (hT _ w1086) (fun _ h9 => h9) rfl dX12_tell_104 ?_
            refine lv_iload hx hb dX12_tell_107 (lv_at hl 0 rfl) ?_
            refine lv_aload_n hx hb dX12_tell_109 rfl (lv_at hl 3 rfl) ?_
            refine va_get (D := (dC, dI)) (ci := 12) (v := .ref g3) (C := RX12) (T := TX12) (N := 32) hx hb hT iX12 hown hK hP 0 rfl rfl 3 (by decide) (hT _ w1085) (fun _ h9 => h9) rfl dX12_tell_110 ?_
            refine lv_iload hx hb dX12_tell_113 (lv_at hl 0 rfl) ?_
            refine va_lald hx hb hK hP 3 2 rfl rfl (vp_in_nI hlt (by decide)) dX12_tell_115 ?_
            refine lv_topl (fun x_6 ex_6 => ?_)
            refine va_last hx hb hK hP hD hS 4 3 rfl rfl (vp_in_nI hlt (by decide)) dX12_tell_116 (fun H locs hP hD hS => ?_)
            obtain ⟨f_7, hf_7⟩ : ∃ gg : Nat → Int64, gg = vp_updL f_g4 (nI i).toNatClampNeg x_6 := ⟨_, rfl⟩
            rw [← hf_7] at hP hD
            have hP : va_P (dC, dI) vwCl [(m0, .inr (12, [.ref g0, .ref g1, .ref g2, .ref g3, .ref g4, .int 0, .int 0, .int 0, .int 0, .ref g9, .int 0, .int 0, .int 0, .int 0, .int (-1), .int 0, .int 0, .ref g17, .ref g18, .int 0, .ref g20, .ref g21, .ref g22, .ref g23, .ref g24, .ref g25, .ref g26, .ref g27, .ref g28, .ref g29, .ref g30, .int 0])), (g0, .inl (cS, 266, .inl f)), (g1, .inl (cV, 266, .inl f_g1)), (g3, .inl (cN, 12, .inr (.inl fn))), (g4, .inl (cO, 12, .inr (.inl f_7)))] H := hP
            have hD : va_D A [(m0, .inr (12, [.ref g0, .ref g1, .ref g2, .ref g3, .ref g4, .int 0, .int 0, .int 0, .int 0, .ref g9, .int 0, .int 0, .int 0, .int 0, .int (-1), .int 0, .int 0, .ref g17, .ref g18, .int 0, .ref g20, .ref g21, .ref g22, .ref g23, .ref g24, .ref g25, .ref g26, .ref g27, .ref g28, .ref g29, .ref g30, .int 0])), (g0, .inl (cS, 266, .inl f)), (g1, .inl (cV, 266, .inl f_g1)), (g3, .inl (cN, 12, .inr (.inl fn))), (g4, .inl (cO, 12, .inr (.inl f_7)))] := hD
            refine lv_iinc (v := nI (i + 1)) (lv' := [(4, .int (nI (i + 1))), (3, .int 0), (2, .int 0), (0, .ref m0), (1, .int 0)]) hx hb dX12_tell_117 hl (k := 0) rfl (nI_1 _) (by decide) rfl (fun ls hl => ?_)
            refine lv_goto (tgt := 96) hx hb dX12_tell_120 (by decide) ?_
            exact ih (i + 1) (by omega) f_7 _ _ (hP.sub [0, 1, 2, 3, 4] rfl) (hD.sub [0, 1, 2, 3, 4] (by decide) rfl) hS ls (lv_sub hl [0, 1, 2, 3, 4] rfl)
        exact loop 12 0 (by omega) fo _ _ hP hD hS ls hl
      | succ n ih =>
        intro i hi f_g1 H locs hP hD hS ls hl
        have hlt : i < 266 := by omega
        refine lv_iload hx hb dX12_tell_65 (lv_at hl 0 rfl) ?_
        refine lv_sipush (v := 266) hx hb dX12_tell_67 (by decide) ?_
        refine lv_icmp_ge (tgt := 93) hx hb dX12_tell_70 (by decide) (fun h => absurd h (nI_ge (a := i) (b := 266) hlt (by decide))) (fun _ => ?_)
        refine lv_aload_n hx hb dX12_tell_73 rfl (lv_at hl 3 rfl) ?_
        refine va_get (D := (dC, dI)) (ci := 12) (v := .ref g1) (C := RX12) (T := TX12) (N := 32) hx hb hT iX12 hown hK hP 0 rfl rfl 1 (by decide) (hT _ w1083) (fun _ h9 => h9) rfl dX12_tell_74 ?_
        refine lv_iload hx hb dX12_tell_77 (lv_at hl 0 rfl) ?_
        refine lv_aload_n hx hb dX12_tell_79 rfl (lv_at hl 3 rfl) ?_
        refine va_get (D := (dC, dI)) (ci := 12) (v := .ref g0) (C := RX12) (T := TX12) (N := 32) hx hb hT iX12 hown hK hP 0 rfl rfl 0 (by decide) (hT _ w1082) (fun _ h9 => h9) rfl dX12_tell_80 ?_
        refine lv_iload hx hb dX12_tell_83 (lv_at hl 0 rfl) ?_
        refine va_iald hx hb hK hP 1 0 rfl rfl (vp_in_nI hlt (by decide)) dX12_tell_85 ?_
        refine lv_topi (fun x_8 ex_8 => ?_)
        refine va_iast hx hb hK hP hD hS 2 1 rfl rfl (vp_in_nI hlt (by decide)) dX12_tell_86 (fun H locs hP hD hS => ?_)
        obtain ⟨f_9, hf_9⟩ : ∃ gg : Nat → Int32, gg = upd f_g1 (nI i).toNatClampNeg x_8 := ⟨_, rfl⟩
        rw [← hf_9] at hP hD
        have hP : va_P (dC, dI) vwCl [(m0, .inr (12, [.ref g0, .ref g1, .ref g2, .ref g3, .ref g4, .int 0, .int 0, .int 0, .int 0, .ref g9, .int 0, .int 0, .int 0, .int 0, .int (-1), .int 0, .int 0, .ref g17, .ref g18, .int 0, .ref g20, .ref g21, .ref g22, .ref g23, .ref g24, .ref g25, .ref g26, .ref g27, .ref g28, .ref g29, .ref g30, .int 0])), (g0, .inl (cS, 266, .inl f)), (g1, .inl (cV, 266, .inl f_9)), (g3, .inl (cN, 12, .inr (.inl fn))), (g4, .inl (cO, 12, .inr (.inl fo)))] H := hP
        have hD : va_D A [(m0, .inr (12, [.ref g0, .ref g1, .ref g2, .ref g3, .ref g4, .int 0, .int 0, .int 0, .int 0, .ref g9, .int 0, .int 0, .int 0, .int 0, .int (-1), .int 0, .int 0, .ref g17, .ref g18, .int 0, .ref g20, .ref g21, .ref g22, .ref g23, .ref g24, .ref g25, .ref g26, .ref g27, .ref g28, .ref g29, .ref g30, .int 0])), (g0, .inl (cS, 266, .inl f)), (g1, .inl (cV, 266, .inl f_9)), (g3, .inl (cN, 12, .inr (.inl fn))), (g4, .inl (cO, 12, .inr (.inl fo)))] := hD
        refine lv_iinc (v := nI (i + 1)) (lv' := [(4, .int (nI (i + 1))), (3, .int 0), (2, .int 0), (0, .ref m0), (1, .int 0)]) hx hb dX12_tell_87 hl (k := 0) rfl (nI_1 _) (by decide) rfl (fun ls hl => ?_)
        refine lv_goto (tgt := 65) hx hb dX12_tell_90 (by decide) ?_
        exact ih (i + 1) (by omega) f_9 _ _ (hP.sub [0, 1, 2, 3, 4] rfl) (hD.sub [0, 1, 2, 3, 4] (by decide) rfl) hS ls (lv_sub hl [0, 1, 2, 3, 4] rfl)
    exact loop 266 0 (by omega) fv _ _ hP hD hS ls hl
  · refine lv_bipush (v := (-3)) hx hb dX12_tell_19 (by decide) ?_
    refine W.widen (k := 0) (n := 0) (Nat.le_of_ble_eq_true rfl) (Nat.le_of_ble_eq_true rfl) ?_
    exact W.iret (v := (-3)) hx hb hr (fun t ht hW => ⟨⟨(-3), (), rfl, (mt_a ez_1 c_16), trivial⟩, hS.F ht⟩) hS.2.2 dX12_tell_21

set_option maxHeartbeats 4000000 in
set_option maxRecDepth 100000 in
theorem c_fault (l : Launch) (dC : Nat → ClassId) (dI : Nat → Nat → Nat) (h0 : Nat) (a0 : Nat) (a1 : Nat) (a2 : Nat) (a3 : Nat) (a4 : Nat) (a5 : Nat) (a6 : Nat) (a7 : Nat) (a8 : Nat) (a9 : Nat) (n0 : Nat) (b0 : Nat) (rn : Nat) (rb : Nat) (tb : Nat) (sz : Nat) (k0 : Int32) : Met l yX11_fault (wT yX11_fault cX11_fault 2 (some .int)) ({ frames := 0, cells := 0, slots := 0, locals := 0 }) (pcW dC dI [.ref h0, .int k0] sz [(h0, .inr (11, [.ref a0, .ref a1, .ref a2, .ref a3, .ref a4, .ref a5, .ref a6, .ref a7, .ref a8, .ref a9, .ref n0, .ref b0, .int (-1)])), (a1, .inr (6, [.int 0, .int (-1), .ref rn, .ref rb, .ref tb, .int 0, .int 0, .int 0, .int 0, .int 0]))] []) (vp_Si (fun r => r = (if k0 = 0 then 0 else (-1)))) 0 0 (fun _ => False) := by
  refine Met.ofW (cc := cX11_fault) (maxL := 2) (ret := (some .int)) (by decide) rfl ?_
  intro p e s m args below meth c s₁ B hml hv
  obtain ⟨rfl, hsz, hP, hK, hD0⟩ := hv
  have hx := B.exec
  have hb := B.bytes
  have hr := B.returns
  have hT : ∀ w ∈ TB, w.before [.ref h0, .int k0].toArray s = true := fun w h => atoms_spec (ws := wT yX11_fault cX11_fault 2 (some .int)) B.pre w (List.mem_cons_of_mem _ h)
  have hown : s.vm.findClass RX11 = some m.cls := findClass_of_methodNamed B.named
  have hlocks := B.notSynchronized
  subst hsz
  have hD := hD0
  have hP : va_P (dC, dI) vwCl [(h0, .inr (11, [.ref a0, .ref a1, .ref a2, .ref a3, .ref a4, .ref a5, .ref a6, .ref a7, .ref a8, .ref a9, .ref n0, .ref b0, .int (-1)])), (a1, .inr (6, [.int 0, .int (-1), .ref rn, .ref rb, .ref tb, .int 0, .int 0, .int 0, .int 0, .int 0]))] s.heap := hP
  have hl := lv_entry ([.ref h0, .int k0]) (n := 2) (Nat.le_of_ble_eq_true rfl)
  rw [lg_entry_eq]
  generalize (lg_sl ([.ref h0, .int k0]) ++ List.replicate (2 - (lg_sl ([.ref h0, .int k0])).length) Slot.unset).toArray = ls at hl ⊢
  have hl : lv_has ls 2 [(0, .ref h0), (1, .int k0)] := hl
  refine lv_iload_n hx hb dX11_fault_0 rfl (lv_at hl 1 rfl) ?_
  rcases sw2 k0 with rfl | rfl | ⟨hs0, hs1⟩
  · refine lv_lookup (off := 27) (tgt := 28) hx hb dX11_fault_1 (by decide) (by decide) (by decide) ?_
    refine lv_aload_n hx hb dX11_fault_28 rfl (lv_at hl 0 rfl) ?_
    refine va_get (D := (dC, dI)) (ci := 11) (v := .ref a1) (C := RX11) (T := TX11) (N := 13) hx hb hT iX11 hown hK hP 0 rfl rfl 1 (by decide) (hT _ w354) (fun _ h9 => h9) rfl dX11_fault_29 ?_
    refine va_get (D := (dC, dI)) (ci := 6) (v := .int 0) (C := RX6) (T := TX6) (N := 10) hx hb hT iX6 hown hK hP 1 rfl rfl 0 (by decide) (hT _ w140) (fun _ h9 => h9) rfl dX11_fault_32 ?_
    exact W.iret (v := 0) hx hb hr (fun t ht hW => ⟨0, rfl, (by decide), ht⟩) (fun q h => by cases h) dX11_fault_35
  · refine lv_lookup (off := 35) (tgt := 36) hx hb dX11_fault_1 (by decide) (by decide) (by decide) ?_
    refine lv_aload_n hx hb dX11_fault_36 rfl (lv_at hl 0 rfl) ?_
    refine va_get (D := (dC, dI)) (ci := 11) (v := .ref a1) (C := RX11) (T := TX11) (N := 13) hx hb hT iX11 hown hK hP 0 rfl rfl 1 (by decide) (hT _ w354) (fun _ h9 => h9) rfl dX11_fault_37 ?_
    refine va_get (D := (dC, dI)) (ci := 6) (v := .int (-1)) (C := RX6) (T := TX6) (N := 10) hx hb hT iX6 hown hK hP 1 rfl rfl 1 (by decide) (hT _ w142) (fun _ h9 => h9) rfl dX11_fault_40 ?_
    exact W.iret (v := (-1)) hx hb hr (fun t ht hW => ⟨(-1), rfl, (by decide), ht⟩) (fun q h => by cases h) dX11_fault_43
  · refine lv_lookup (off := 43) (tgt := 44) hx hb dX11_fault_1 (by decide) (by show Op.lookupswitch.offset [(0, 27), (1, 35)] 43 _ = _; rw [lv_osw (a := 0) hs0 (by decide), lv_osw (a := 1) hs1 (by decide)]; rfl) (by decide) ?_
    refine lv_iconst (v := (-1)) hx hb dX11_fault_44 (by decide) ?_
    exact W.iret (v := (-1)) hx hb hr (fun t ht hW => ⟨(-1), rfl, (fl_n hs0), ht⟩) (fun q h => by cases h) dX11_fault_45

set_option maxHeartbeats 4000000 in
set_option maxRecDepth 100000 in
theorem m_fault (l : Launch) (dC : Nat → ClassId) (dI : Nat → Nat → Nat) (m0 : Nat) (g0 : Nat) (g1 : Nat) (g2 : Nat) (g3 : Nat) (g4 : Nat) (g9 : Nat) (g17 : Nat) (g18 : Nat) (g20 : Nat) (g21 : Nat) (g22 : Nat) (g23 : Nat) (g24 : Nat) (g25 : Nat) (g26 : Nat) (g27 : Nat) (g28 : Nat) (g29 : Nat) (g30 : Nat) (sz : Nat) (k0 : Int32) : Met l yX12_fault (wT yX12_fault cX12_fault 2 (some .int)) ({ frames := 0, cells := 0, slots := 0, locals := 0 }) (pcW dC dI [.ref m0, .int k0] sz [(m0, .inr (12, [.ref g0, .ref g1, .ref g2, .ref g3, .ref g4, .int 0, .int 0, .int 0, .int 0, .ref g9, .int 0, .int 0, .int 0, .int 0, .int (-1), .int 0, .int 0, .ref g17, .ref g18, .int 0, .ref g20, .ref g21, .ref g22, .ref g23, .ref g24, .ref g25, .ref g26, .ref g27, .ref g28, .ref g29, .ref g30, .int 0]))] []) (va_Qi (fun (r : Int32) (_ : Unit) => r = (if k0 = 0 then 0 else (-1))) (fun _ _ => True) (va_A [(m0, .inr (12, [.ref g0, .ref g1, .ref g2, .ref g3, .ref g4, .int 0, .int 0, .int 0, .int 0, .ref g9, .int 0, .int 0, .int 0, .int 0, .int (-1), .int 0, .int 0, .ref g17, .ref g18, .int 0, .ref g20, .ref g21, .ref g22, .ref g23, .ref g24, .ref g25, .ref g26, .ref g27, .ref g28, .ref g29, .ref g30, .int 0]))] sz)) 0 0 (va_A [(m0, .inr (12, [.ref g0, .ref g1, .ref g2, .ref g3, .ref g4, .int 0, .int 0, .int 0, .int 0, .ref g9, .int 0, .int 0, .int 0, .int 0, .int (-1), .int 0, .int 0, .ref g17, .ref g18, .int 0, .ref g20, .ref g21, .ref g22, .ref g23, .ref g24, .ref g25, .ref g26, .ref g27, .ref g28, .ref g29, .ref g30, .int 0]))] sz) := by
  refine Met.ofW (cc := cX12_fault) (maxL := 2) (ret := (some .int)) (by decide) rfl ?_
  intro p e s m args below meth c s₁ B hml hv
  obtain ⟨rfl, hsz, hP, hK, hD0⟩ := hv
  have hx := B.exec
  have hb := B.bytes
  have hr := B.returns
  have hT : ∀ w ∈ TB, w.before [.ref m0, .int k0].toArray s = true := fun w h => atoms_spec (ws := wT yX12_fault cX12_fault 2 (some .int)) B.pre w (List.mem_cons_of_mem _ h)
  have hown : s.vm.findClass RX12 = some m.cls := findClass_of_methodNamed B.named
  have hlocks := B.notSynchronized
  subst hsz
  have hD := hD0.self (sz := s.heap.size)
  generalize hAe : va_A [(m0, .inr (12, [.ref g0, .ref g1, .ref g2, .ref g3, .ref g4, .int 0, .int 0, .int 0, .int 0, .ref g9, .int 0, .int 0, .int 0, .int 0, .int (-1), .int 0, .int 0, .ref g17, .ref g18, .int 0, .ref g20, .ref g21, .ref g22, .ref g23, .ref g24, .ref g25, .ref g26, .ref g27, .ref g28, .ref g29, .ref g30, .int 0]))] s.heap.size = A at hD ⊢
  have hA : ∀ q : Nat, s.heap.size ≤ q → A q := fun q h => by rw [← hAe]; exact Or.inr h
  have hS : va_S A s.heap s.heap [] := va_S.rf
  have hP : va_P (dC, dI) vwCl [(m0, .inr (12, [.ref g0, .ref g1, .ref g2, .ref g3, .ref g4, .int 0, .int 0, .int 0, .int 0, .ref g9, .int 0, .int 0, .int 0, .int 0, .int (-1), .int 0, .int 0, .ref g17, .ref g18, .int 0, .ref g20, .ref g21, .ref g22, .ref g23, .ref g24, .ref g25, .ref g26, .ref g27, .ref g28, .ref g29, .ref g30, .int 0]))] s.heap := hP
  have hl := lv_entry ([.ref m0, .int k0]) (n := 2) (Nat.le_of_ble_eq_true rfl)
  rw [lg_entry_eq]
  generalize (lg_sl ([.ref m0, .int k0]) ++ List.replicate (2 - (lg_sl ([.ref m0, .int k0])).length) Slot.unset).toArray = ls at hl ⊢
  have hl : lv_has ls 2 [(0, .ref m0), (1, .int k0)] := hl
  refine lv_aload_n hx hb dX12_fault_0 rfl (lv_at hl 0 rfl) ?_
  refine lv_iconst (v := 0) hx hb dX12_fault_1 (by decide) ?_
  refine va_put (D := (dC, dI)) (ci := 12) (v := .int 0) (ty := .int) (C := RX12) (T := TX12) (N := 32) hx hb hT iX12 tyX12 tyX12_ok nmX12 hown hK hP hD hS 0 rfl rfl 8 (by decide) (hT _ w1090) (fun _ h9 => h9) rfl (by decide +kernel) rfl rfl (Nat.le_of_ble_eq_true rfl) dX12_fault_2 (fun H locs hP hD hS => ?_)
  have hP : va_P (dC, dI) vwCl [(m0, .inr (12, [.ref g0, .ref g1, .ref g2, .ref g3, .ref g4, .int 0, .int 0, .int 0, .int 0, .ref g9, .int 0, .int 0, .int 0, .int 0, .int (-1), .int 0, .int 0, .ref g17, .ref g18, .int 0, .ref g20, .ref g21, .ref g22, .ref g23, .ref g24, .ref g25, .ref g26, .ref g27, .ref g28, .ref g29, .ref g30, .int 0]))] H := hP
  have hD : va_D A [(m0, .inr (12, [.ref g0, .ref g1, .ref g2, .ref g3, .ref g4, .int 0, .int 0, .int 0, .int 0, .ref g9, .int 0, .int 0, .int 0, .int 0, .int (-1), .int 0, .int 0, .ref g17, .ref g18, .int 0, .ref g20, .ref g21, .ref g22, .ref g23, .ref g24, .ref g25, .ref g26, .ref g27, .ref g28, .ref g29, .ref g30, .int 0]))] := hD
  refine lv_iload_n hx hb dX12_fault_5 rfl (lv_at hl 1 rfl) ?_
  refine lv_if_ne (tgt := 16) hx hb dX12_fault_6 (by decide) (fun c_6 => ?_) (fun c_6 => ?_)
  · refine lv_iload_n hx hb dX12_fault_16 rfl (lv_at hl 1 rfl) ?_
    refine lv_iconst (v := 1) hx hb dX12_fault_17 (by decide) ?_
    refine lv_icmp_ne (tgt := 28) hx hb dX12_fault_18 (by decide) (fun c_18 => ?_) (fun c_18 => ?_)
    · refine lv_iconst (v := (-1)) hx hb dX12_fault_28 (by decide) ?_
      refine W.widen (k := 0) (n := 0) (Nat.le_of_ble_eq_true rfl) (Nat.le_of_ble_eq_true rfl) ?_
      exact W.iret (v := (-1)) hx hb hr (fun t ht hW => ⟨⟨(-1), (), rfl, (fl_n c_6), trivial⟩, hS.F ht⟩) hS.2.2 dX12_fault_29
    · refine lv_aload_n hx hb dX12_fault_21 rfl (lv_at hl 0 rfl) ?_
      refine va_get (D := (dC, dI)) (ci := 12) (v := .int (-1)) (C := RX12) (T := TX12) (N := 32) hx hb hT iX12 hown hK hP 0 rfl rfl 14 (by decide) (hT _ w1096) (fun _ h9 => h9) rfl dX12_fault_22 ?_
      refine lv_goto (tgt := 29) hx hb dX12_fault_25 (by decide) ?_
      refine W.widen (k := 0) (n := 0) (Nat.le_of_ble_eq_true rfl) (Nat.le_of_ble_eq_true rfl) ?_
      exact W.iret (v := (-1)) hx hb hr (fun t ht hW => ⟨⟨(-1), (), rfl, (fl_n c_6), trivial⟩, hS.F ht⟩) hS.2.2 dX12_fault_29
  · refine lv_aload_n hx hb dX12_fault_9 rfl (lv_at hl 0 rfl) ?_
    refine va_get (D := (dC, dI)) (ci := 12) (v := .int 0) (C := RX12) (T := TX12) (N := 32) hx hb hT iX12 hown hK hP 0 rfl rfl 13 (by decide) (hT _ w1095) (fun _ h9 => h9) rfl dX12_fault_10 ?_
    refine lv_goto (tgt := 29) hx hb dX12_fault_13 (by decide) ?_
    refine W.widen (k := 0) (n := 0) (Nat.le_of_ble_eq_true rfl) (Nat.le_of_ble_eq_true rfl) ?_
    exact W.iret (v := 0) hx hb hr (fun t ht hW => ⟨⟨0, (), rfl, (fl_0 c_6), trivial⟩, hS.F ht⟩) hS.2.2 dX12_fault_29

set_option maxHeartbeats 4000000 in
set_option maxRecDepth 100000 in
theorem c_kept (l : Launch) (dC : Nat → ClassId) (dI : Nat → Nat → Nat) (b0 : Nat) (e0 : Nat) (e1 : Nat) (e2 : Nat) (e3 : Nat) (e4 : Nat) (e5 : Nat) (sz : Nat) : Met l yX0_keptTrades (wT yX0_keptTrades cX0_keptTrades 3 (some .int)) ({ frames := 0, cells := 0, slots := 0, locals := 0 }) (pcW dC dI [.ref b0] sz [(b0, .inr (0, [.ref e0, .ref e1, .ref e2, .ref e3, .ref e4, .ref e5, .int 0, .int 0]))] []) (vp_Si (fun r => r = 0)) 0 0 (fun _ => False) := by
  refine Met.ofW (cc := cX0_keptTrades) (maxL := 3) (ret := (some .int)) (by decide) rfl ?_
  intro p e s m args below meth c s₁ B hml hv
  obtain ⟨rfl, hsz, hP, hK, hD0⟩ := hv
  have hx := B.exec
  have hb := B.bytes
  have hr := B.returns
  have hT : ∀ w ∈ TB, w.before [.ref b0].toArray s = true := fun w h => atoms_spec (ws := wT yX0_keptTrades cX0_keptTrades 3 (some .int)) B.pre w (List.mem_cons_of_mem _ h)
  have hown : s.vm.findClass RX0 = some m.cls := findClass_of_methodNamed B.named
  have hlocks := B.notSynchronized
  subst hsz
  have hD := hD0
  have hP : va_P (dC, dI) vwCl [(b0, .inr (0, [.ref e0, .ref e1, .ref e2, .ref e3, .ref e4, .ref e5, .int 0, .int 0]))] s.heap := hP
  have hl := lv_entry ([.ref b0]) (n := 3) (Nat.le_of_ble_eq_true rfl)
  rw [lg_entry_eq]
  generalize (lg_sl ([.ref b0]) ++ List.replicate (3 - (lg_sl ([.ref b0])).length) Slot.unset).toArray = ls at hl ⊢
  have hl : lv_has ls 3 [(0, .ref b0)] := hl
  refine lv_iconst (v := 0) hx hb dX0_keptTrades_0 (by decide) ?_
  refine lv_istore_n (lv' := [(1, .int 0), (0, .ref b0)]) hx hb dX0_keptTrades_1 rfl hl (by decide) rfl (fun ls hl => ?_)
  refine lv_iconst (v := 0) hx hb dX0_keptTrades_2 (by decide) ?_
  refine lv_istore_n (lv' := [(2, .int 0), (1, .int 0), (0, .ref b0)]) hx hb dX0_keptTrades_3 rfl hl (by decide) rfl (fun ls hl => ?_)
  refine lv_iload_n hx hb dX0_keptTrades_4 rfl (lv_at hl 0 rfl) ?_
  refine lv_aload_n hx hb dX0_keptTrades_5 rfl (lv_at hl 2 rfl) ?_
  refine va_get (D := (dC, dI)) (ci := 0) (v := .int 0) (C := RX0) (T := TX0) (N := 8) hx hb hT iX0 hown hK hP 0 rfl rfl 6 (by decide) (hT _ w112) (fun _ h9 => h9) rfl dX0_keptTrades_6 ?_
  refine lv_icmp_ge (tgt := 30) hx hb dX0_keptTrades_9 (by decide) (fun _ => ?_) (fun h => absurd (by decide) h)
  refine lv_iload_n hx hb dX0_keptTrades_30 rfl (lv_at hl 1 rfl) ?_
  exact W.iret (v := 0) hx hb hr (fun t ht hW => ⟨0, rfl, rfl, ht⟩) (fun q h => by cases h) dX0_keptTrades_31

set_option maxHeartbeats 4000000 in
set_option maxRecDepth 100000 in
theorem m_kept (l : Launch) (dC : Nat → ClassId) (dI : Nat → Nat → Nat) (m0 : Nat) (g0 : Nat) (g1 : Nat) (g2 : Nat) (g3 : Nat) (g4 : Nat) (g9 : Nat) (g17 : Nat) (g18 : Nat) (g20 : Nat) (g21 : Nat) (g22 : Nat) (g23 : Nat) (g24 : Nat) (g25 : Nat) (g26 : Nat) (g27 : Nat) (g28 : Nat) (g29 : Nat) (g30 : Nat) (cS : ClassId) (f : Nat → Int32) (sz : Nat) (hf0 : f 0 = 0) : Met l yX12_keptMany (wT yX12_keptMany cX12_keptMany 3 (some .int)) ({ frames := 0, cells := 0, slots := 0, locals := 0 }) (pcW dC dI [.ref m0] sz [(m0, .inr (12, [.ref g0, .ref g1, .ref g2, .ref g3, .ref g4, .int 0, .int 0, .int 0, .int 0, .ref g9, .int 0, .int 0, .int 0, .int 0, .int (-1), .int 0, .int 0, .ref g17, .ref g18, .int 0, .ref g20, .ref g21, .ref g22, .ref g23, .ref g24, .ref g25, .ref g26, .ref g27, .ref g28, .ref g29, .ref g30, .int 0])), (g0, .inl (cS, 266, .inl f))] [(cS, .int)]) (vp_Si (fun r => r = 0)) 0 0 (fun _ => False) := by
  refine Met.ofW (cc := cX12_keptMany) (maxL := 3) (ret := (some .int)) (by decide) rfl ?_
  intro p e s m args below meth c s₁ B hml hv
  obtain ⟨rfl, hsz, hP, hK, hD0⟩ := hv
  have hx := B.exec
  have hb := B.bytes
  have hr := B.returns
  have hT : ∀ w ∈ TB, w.before [.ref m0].toArray s = true := fun w h => atoms_spec (ws := wT yX12_keptMany cX12_keptMany 3 (some .int)) B.pre w (List.mem_cons_of_mem _ h)
  have hown : s.vm.findClass RX12 = some m.cls := findClass_of_methodNamed B.named
  have hlocks := B.notSynchronized
  subst hsz
  have hD := hD0
  have hP : va_P (dC, dI) vwCl [(m0, .inr (12, [.ref g0, .ref g1, .ref g2, .ref g3, .ref g4, .int 0, .int 0, .int 0, .int 0, .ref g9, .int 0, .int 0, .int 0, .int 0, .int (-1), .int 0, .int 0, .ref g17, .ref g18, .int 0, .ref g20, .ref g21, .ref g22, .ref g23, .ref g24, .ref g25, .ref g26, .ref g27, .ref g28, .ref g29, .ref g30, .int 0])), (g0, .inl (cS, 266, .inl f))] s.heap := hP
  have hl := lv_entry ([.ref m0]) (n := 3) (Nat.le_of_ble_eq_true rfl)
  rw [lg_entry_eq]
  generalize (lg_sl ([.ref m0]) ++ List.replicate (3 - (lg_sl ([.ref m0])).length) Slot.unset).toArray = ls at hl ⊢
  have hl : lv_has ls 3 [(0, .ref m0)] := hl
  refine lv_iconst (v := 0) hx hb dX12_keptMany_0 (by decide) ?_
  refine lv_istore_n (lv' := [(1, .int 0), (0, .ref m0)]) hx hb dX12_keptMany_1 rfl hl (by decide) rfl (fun ls hl => ?_)
  refine lv_iconst (v := 0) hx hb dX12_keptMany_2 (by decide) ?_
  refine lv_istore_n (lv' := [(2, .int 0), (1, .int 0), (0, .ref m0)]) hx hb dX12_keptMany_3 rfl hl (by decide) rfl (fun ls hl => ?_)
  refine lv_iload_n hx hb dX12_keptMany_4 rfl (lv_at hl 0 rfl) ?_
  refine lv_aload_n hx hb dX12_keptMany_5 rfl (lv_at hl 2 rfl) ?_
  refine va_get (D := (dC, dI)) (ci := 12) (v := .ref g0) (C := RX12) (T := TX12) (N := 32) hx hb hT iX12 hown hK hP 0 rfl rfl 0 (by decide) (hT _ w1082) (fun _ h9 => h9) rfl dX12_keptMany_6 ?_
  refine lv_iconst (v := 0) hx hb dX12_keptMany_9 (by decide) ?_
  refine va_iald hx hb hK hP 1 0 rfl rfl (by unfold vp_in; decide) dX12_keptMany_10 ?_
  refine lv_topi (fun x_1 ex_1 => ?_)
  obtain rfl : x_1 = 0 := ex_1.trans hf0
  refine lv_icmp_ge (tgt := 29) hx hb dX12_keptMany_11 (by decide) (fun _ => ?_) (fun h => absurd (by decide) h)
  refine lv_iload_n hx hb dX12_keptMany_29 rfl (lv_at hl 1 rfl) ?_
  exact W.iret (v := 0) hx hb hr (fun t ht hW => ⟨0, rfl, rfl, ht⟩) (fun q h => by cases h) dX12_keptMany_30

set_option maxHeartbeats 4000000 in
set_option maxRecDepth 100000 in
theorem c_count (l : Launch) (dC : Nat → ClassId) (dI : Nat → Nat → Nat) (h0 : Nat) (a0 : Nat) (a1 : Nat) (a2 : Nat) (a3 : Nat) (a4 : Nat) (a5 : Nat) (a6 : Nat) (a7 : Nat) (a8 : Nat) (a9 : Nat) (n0 : Nat) (b0 : Nat) (l0 : Nat) (l1 : Nat) (e0 : Nat) (e1 : Nat) (e2 : Nat) (e3 : Nat) (e4 : Nat) (e5 : Nat) (ba : Nat) (tb : Nat) (sz : Nat) (k0 : Int32) : Met l yX11_count (wT yX11_count cX11_count 2 (some .int)) ({ frames := 1, cells := 0, slots := 0, locals := 22 }) (pcW dC dI [.ref h0, .int k0] sz [(h0, .inr (11, [.ref a0, .ref a1, .ref a2, .ref a3, .ref a4, .ref a5, .ref a6, .ref a7, .ref a8, .ref a9, .ref n0, .ref b0, .int (-1)])), (n0, .inr (3, [.ref l0, .ref l1, .int 0, .int 0])), (b0, .inr (0, [.ref e0, .ref e1, .ref e2, .ref e3, .ref e4, .ref e5, .int 0, .int 0])), (a2, .inr (5, [.ref ba, .int 0])), (a0, .inr (10, [.ref tb, .int 0]))] []) (vp_Si (fun r => r = (if 0 ≤ k0 ∧ k0 ≤ 6 then 0 else (-1)))) 0 0 (fun _ => False) := by
  refine Met.ofW (cc := cX11_count) (maxL := 2) (ret := (some .int)) (by decide) rfl ?_
  intro p e s m args below meth c s₁ B hml hv
  obtain ⟨rfl, hsz, hP, hK, hD0⟩ := hv
  have hx := B.exec
  have hb := B.bytes
  have hr := B.returns
  have hT : ∀ w ∈ TB, w.before [.ref h0, .int k0].toArray s = true := fun w h => atoms_spec (ws := wT yX11_count cX11_count 2 (some .int)) B.pre w (List.mem_cons_of_mem _ h)
  have hown : s.vm.findClass RX11 = some m.cls := findClass_of_methodNamed B.named
  have hlocks := B.notSynchronized
  subst hsz
  have hD := hD0
  have hP : va_P (dC, dI) vwCl [(h0, .inr (11, [.ref a0, .ref a1, .ref a2, .ref a3, .ref a4, .ref a5, .ref a6, .ref a7, .ref a8, .ref a9, .ref n0, .ref b0, .int (-1)])), (n0, .inr (3, [.ref l0, .ref l1, .int 0, .int 0])), (b0, .inr (0, [.ref e0, .ref e1, .ref e2, .ref e3, .ref e4, .ref e5, .int 0, .int 0])), (a2, .inr (5, [.ref ba, .int 0])), (a0, .inr (10, [.ref tb, .int 0]))] s.heap := hP
  have hl := lv_entry ([.ref h0, .int k0]) (n := 2) (Nat.le_of_ble_eq_true rfl)
  rw [lg_entry_eq]
  generalize (lg_sl ([.ref h0, .int k0]) ++ List.replicate (2 - (lg_sl ([.ref h0, .int k0])).length) Slot.unset).toArray = ls at hl ⊢
  have hl : lv_has ls 2 [(0, .ref h0), (1, .int k0)] := hl
  refine lv_iload_n hx hb dX11_count_0 rfl (lv_at hl 1 rfl) ?_
  rcases sw7 k0 with rfl | rfl | rfl | rfl | rfl | rfl | rfl | hsw
  · refine lv_tableIn (off := 43) (tgt := 44) hx hb dX11_count_1 (by decide) (by decide) rfl (by decide) ?_
    refine lv_aload_n hx hb dX11_count_44 rfl (lv_at hl 0 rfl) ?_
    refine va_get (D := (dC, dI)) (ci := 11) (v := .ref n0) (C := RX11) (T := TX11) (N := 13) hx hb hT iX11 hown hK hP 0 rfl rfl 10 (by decide) (hT _ w363) (fun _ h9 => h9) rfl dX11_count_45 ?_
    refine va_get (D := (dC, dI)) (ci := 3) (v := .int 0) (C := RX3) (T := TX3) (N := 4) hx hb hT iX3 hown hK hP 1 rfl rfl 2 (by decide) (hT _ w64) (fun _ h9 => h9) rfl dX11_count_48 ?_
    exact W.iret (v := 0) hx hb hr (fun t ht hW => ⟨0, rfl, (by decide), ht⟩) (fun q h => by cases h) dX11_count_51
  · refine lv_tableIn (off := 51) (tgt := 52) hx hb dX11_count_1 (by decide) (by decide) rfl (by decide) ?_
    refine lv_aload_n hx hb dX11_count_52 rfl (lv_at hl 0 rfl) ?_
    refine va_get (D := (dC, dI)) (ci := 11) (v := .ref n0) (C := RX11) (T := TX11) (N := 13) hx hb hT iX11 hown hK hP 0 rfl rfl 10 (by decide) (hT _ w363) (fun _ h9 => h9) rfl dX11_count_53 ?_
    refine va_get (D := (dC, dI)) (ci := 3) (v := .int 0) (C := RX3) (T := TX3) (N := 4) hx hb hT iX3 hown hK hP 1 rfl rfl 3 (by decide) (hT _ w67) (fun _ h9 => h9) rfl dX11_count_56 ?_
    exact W.iret (v := 0) hx hb hr (fun t ht hW => ⟨0, rfl, (by decide), ht⟩) (fun q h => by cases h) dX11_count_59
  · refine lv_tableIn (off := 59) (tgt := 60) hx hb dX11_count_1 (by decide) (by decide) rfl (by decide) ?_
    refine lv_aload_n hx hb dX11_count_60 rfl (lv_at hl 0 rfl) ?_
    refine va_get (D := (dC, dI)) (ci := 11) (v := .ref b0) (C := RX11) (T := TX11) (N := 13) hx hb hT iX11 hown hK hP 0 rfl rfl 11 (by decide) (hT _ w364) (fun _ h9 => h9) rfl dX11_count_61 ?_
    refine va_get (D := (dC, dI)) (ci := 0) (v := .int 0) (C := RX0) (T := TX0) (N := 8) hx hb hT iX0 hown hK hP 2 rfl rfl 6 (by decide) (hT _ w114) (fun _ h9 => h9) rfl dX11_count_64 ?_
    exact W.iret (v := 0) hx hb hr (fun t ht hW => ⟨0, rfl, (by decide), ht⟩) (fun q h => by cases h) dX11_count_67
  · refine lv_tableIn (off := 67) (tgt := 68) hx hb dX11_count_1 (by decide) (by decide) rfl (by decide) ?_
    refine lv_aload_n hx hb dX11_count_68 rfl (lv_at hl 0 rfl) ?_
    refine va_get (D := (dC, dI)) (ci := 11) (v := .ref b0) (C := RX11) (T := TX11) (N := 13) hx hb hT iX11 hown hK hP 0 rfl rfl 11 (by decide) (hT _ w364) (fun _ h9 => h9) rfl dX11_count_69 ?_
    have hPc := hP.sub (ws' := [(b0, .inr (0, [.ref e0, .ref e1, .ref e2, .ref e3, .ref e4, .ref e5, .int 0, .int 0]))]) [2] rfl
    have hDc := hD.sub (ws' := [(b0, .inr (0, [.ref e0, .ref e1, .ref e2, .ref e3, .ref e4, .ref e5, .int 0, .int 0]))]) [2] (by decide) rfl
    have hKc := hK.sub (tys' := []) [] rfl
    refine vp_callSi (va_Run.run (va_runV (As := []) (rest := []) ⟨hx, hb, hml, hown, hT⟩ (c_kept l dC dI b0 e0 e1 e2 e3 e4 e5 s.heap.size) (cwV 0 hT (gV w1067 w1068 w1069 w5 w1070) rfl rfl rfl (by decide +kernel) ⟨(Nat.le_of_ble_eq_true rfl), (Nat.le_of_ble_eq_true rfl)⟩) ⟨pcW.blind, va_recv hKc hPc (ci := 0) (q0 := 0) rfl rfl, pcW.pre hPc hKc hDc⟩ rfl rfl hl.1 rfl (lv_room (Nat.le_of_ble_eq_true rfl)) dX11_count_72 ⟨(Nat.le_of_ble_eq_true rfl), (Nat.le_of_ble_eq_true rfl)⟩)) (fun r_72 hr_72 => ?_)
    obtain rfl : r_72 = 0 := hr_72
    exact W.iret (v := 0) hx hb hr (fun t ht hW => ⟨0, rfl, (by decide), ht⟩) (fun q h => by cases h) dX11_count_75
  · refine lv_tableIn (off := 75) (tgt := 76) hx hb dX11_count_1 (by decide) (by decide) rfl (by decide) ?_
    refine lv_aload_n hx hb dX11_count_76 rfl (lv_at hl 0 rfl) ?_
    refine va_get (D := (dC, dI)) (ci := 11) (v := .ref b0) (C := RX11) (T := TX11) (N := 13) hx hb hT iX11 hown hK hP 0 rfl rfl 11 (by decide) (hT _ w364) (fun _ h9 => h9) rfl dX11_count_77 ?_
    refine va_get (D := (dC, dI)) (ci := 0) (v := .int 0) (C := RX0) (T := TX0) (N := 8) hx hb hT iX0 hown hK hP 2 rfl rfl 7 (by decide) (hT _ w118) (fun _ h9 => h9) rfl dX11_count_80 ?_
    exact W.iret (v := 0) hx hb hr (fun t ht hW => ⟨0, rfl, (by decide), ht⟩) (fun q h => by cases h) dX11_count_83
  · refine lv_tableIn (off := 83) (tgt := 84) hx hb dX11_count_1 (by decide) (by decide) rfl (by decide) ?_
    refine lv_aload_n hx hb dX11_count_84 rfl (lv_at hl 0 rfl) ?_
    refine va_get (D := (dC, dI)) (ci := 11) (v := .ref a2) (C := RX11) (T := TX11) (N := 13) hx hb hT iX11 hown hK hP 0 rfl rfl 2 (by decide) (hT _ w355) (fun _ h9 => h9) rfl dX11_count_85 ?_
    refine va_get (D := (dC, dI)) (ci := 5) (v := .int 0) (C := RX5) (T := TX5) (N := 2) hx hb hT iX5 hown hK hP 3 rfl rfl 1 (by decide) (hT _ w185) (fun _ h9 => h9) rfl dX11_count_88 ?_
    exact W.iret (v := 0) hx hb hr (fun t ht hW => ⟨0, rfl, (by decide), ht⟩) (fun q h => by cases h) dX11_count_91
  · refine lv_tableIn (off := 91) (tgt := 92) hx hb dX11_count_1 (by decide) (by decide) rfl (by decide) ?_
    refine lv_aload_n hx hb dX11_count_92 rfl (lv_at hl 0 rfl) ?_
    refine va_get (D := (dC, dI)) (ci := 11) (v := .ref a0) (C := RX11) (T := TX11) (N := 13) hx hb hT iX11 hown hK hP 0 rfl rfl 0 (by decide) (hT _ w353) (fun _ h9 => h9) rfl dX11_count_93 ?_
    refine va_get (D := (dC, dI)) (ci := 10) (v := .int 0) (C := RX10) (T := TX10) (N := 2) hx hb hT iX10 hown hK hP 4 rfl rfl 1 (by decide) (hT _ w38) (fun _ h9 => h9) rfl dX11_count_96 ?_
    exact W.iret (v := 0) hx hb hr (fun t ht hW => ⟨0, rfl, (by decide), ht⟩) (fun q h => by cases h) dX11_count_99
  · refine lv_tableOut (tgt := 100) hx hb dX11_count_1 hsw (by decide) ?_
    refine lv_iconst (v := (-1)) hx hb dX11_count_100 (by decide) ?_
    exact W.iret (v := (-1)) hx hb hr (fun t ht hW => ⟨(-1), rfl, (ct_d hsw), ht⟩) (fun q h => by cases h) dX11_count_101

set_option maxHeartbeats 4000000 in
set_option maxRecDepth 100000 in
theorem m_count (l : Launch) (dC : Nat → ClassId) (dI : Nat → Nat → Nat) (m0 : Nat) (g0 : Nat) (g1 : Nat) (g2 : Nat) (g3 : Nat) (g4 : Nat) (g9 : Nat) (g17 : Nat) (g18 : Nat) (g20 : Nat) (g21 : Nat) (g22 : Nat) (g23 : Nat) (g24 : Nat) (g25 : Nat) (g26 : Nat) (g27 : Nat) (g28 : Nat) (g29 : Nat) (g30 : Nat) (cS : ClassId) (f : Nat → Int32) (sz : Nat) (k0 : Int32) (hf0 : f 0 = 0) (hf1 : f 1 = 0) : Met l yX12_count (wT yX12_count cX12_count 2 (some .int)) ({ frames := 1, cells := 0, slots := 0, locals := 22 }) (pcW dC dI [.ref m0, .int k0] sz [(m0, .inr (12, [.ref g0, .ref g1, .ref g2, .ref g3, .ref g4, .int 0, .int 0, .int 0, .int 0, .ref g9, .int 0, .int 0, .int 0, .int 0, .int (-1), .int 0, .int 0, .ref g17, .ref g18, .int 0, .ref g20, .ref g21, .ref g22, .ref g23, .ref g24, .ref g25, .ref g26, .ref g27, .ref g28, .ref g29, .ref g30, .int 0])), (g0, .inl (cS, 266, .inl f))] [(cS, .int)]) (va_Qi (fun (r : Int32) (_ : Unit) => r = (if 0 ≤ k0 ∧ k0 ≤ 6 then 0 else (-1))) (fun _ _ => True) (va_A [(m0, .inr (12, [.ref g0, .ref g1, .ref g2, .ref g3, .ref g4, .int 0, .int 0, .int 0, .int 0, .ref g9, .int 0, .int 0, .int 0, .int 0, .int (-1), .int 0, .int 0, .ref g17, .ref g18, .int 0, .ref g20, .ref g21, .ref g22, .ref g23, .ref g24, .ref g25, .ref g26, .ref g27, .ref g28, .ref g29, .ref g30, .int 0])), (g0, .inl (cS, 266, .inl f))] sz)) 0 0 (va_A [(m0, .inr (12, [.ref g0, .ref g1, .ref g2, .ref g3, .ref g4, .int 0, .int 0, .int 0, .int 0, .ref g9, .int 0, .int 0, .int 0, .int 0, .int (-1), .int 0, .int 0, .ref g17, .ref g18, .int 0, .ref g20, .ref g21, .ref g22, .ref g23, .ref g24, .ref g25, .ref g26, .ref g27, .ref g28, .ref g29, .ref g30, .int 0])), (g0, .inl (cS, 266, .inl f))] sz) := by
  refine Met.ofW (cc := cX12_count) (maxL := 2) (ret := (some .int)) (by decide) rfl ?_
  intro p e s m args below meth c s₁ B hml hv
  obtain ⟨rfl, hsz, hP, hK, hD0⟩ := hv
  have hx := B.exec
  have hb := B.bytes
  have hr := B.returns
  have hT : ∀ w ∈ TB, w.before [.ref m0, .int k0].toArray s = true := fun w h => atoms_spec (ws := wT yX12_count cX12_count 2 (some .int)) B.pre w (List.mem_cons_of_mem _ h)
  have hown : s.vm.findClass RX12 = some m.cls := findClass_of_methodNamed B.named
  have hlocks := B.notSynchronized
  subst hsz
  have hD := hD0.self (sz := s.heap.size)
  generalize hAe : va_A [(m0, .inr (12, [.ref g0, .ref g1, .ref g2, .ref g3, .ref g4, .int 0, .int 0, .int 0, .int 0, .ref g9, .int 0, .int 0, .int 0, .int 0, .int (-1), .int 0, .int 0, .ref g17, .ref g18, .int 0, .ref g20, .ref g21, .ref g22, .ref g23, .ref g24, .ref g25, .ref g26, .ref g27, .ref g28, .ref g29, .ref g30, .int 0])), (g0, .inl (cS, 266, .inl f))] s.heap.size = A at hD ⊢
  have hA : ∀ q : Nat, s.heap.size ≤ q → A q := fun q h => by rw [← hAe]; exact Or.inr h
  have hS : va_S A s.heap s.heap [] := va_S.rf
  have hP : va_P (dC, dI) vwCl [(m0, .inr (12, [.ref g0, .ref g1, .ref g2, .ref g3, .ref g4, .int 0, .int 0, .int 0, .int 0, .ref g9, .int 0, .int 0, .int 0, .int 0, .int (-1), .int 0, .int 0, .ref g17, .ref g18, .int 0, .ref g20, .ref g21, .ref g22, .ref g23, .ref g24, .ref g25, .ref g26, .ref g27, .ref g28, .ref g29, .ref g30, .int 0])), (g0, .inl (cS, 266, .inl f))] s.heap := hP
  have hl := lv_entry ([.ref m0, .int k0]) (n := 2) (Nat.le_of_ble_eq_true rfl)
  rw [lg_entry_eq]
  generalize (lg_sl ([.ref m0, .int k0]) ++ List.replicate (2 - (lg_sl ([.ref m0, .int k0])).length) Slot.unset).toArray = ls at hl ⊢
  have hl : lv_has ls 2 [(0, .ref m0), (1, .int k0)] := hl
  refine lv_aload_n hx hb dX12_count_0 rfl (lv_at hl 0 rfl) ?_
  refine lv_iconst (v := 0) hx hb dX12_count_1 (by decide) ?_
  refine va_put (D := (dC, dI)) (ci := 12) (v := .int 0) (ty := .int) (C := RX12) (T := TX12) (N := 32) hx hb hT iX12 tyX12 tyX12_ok nmX12 hown hK hP hD hS 0 rfl rfl 8 (by decide) (hT _ w1090) (fun _ h9 => h9) rfl (by decide +kernel) rfl rfl (Nat.le_of_ble_eq_true rfl) dX12_count_2 (fun H locs hP hD hS => ?_)
  have hP : va_P (dC, dI) vwCl [(m0, .inr (12, [.ref g0, .ref g1, .ref g2, .ref g3, .ref g4, .int 0, .int 0, .int 0, .int 0, .ref g9, .int 0, .int 0, .int 0, .int 0, .int (-1), .int 0, .int 0, .ref g17, .ref g18, .int 0, .ref g20, .ref g21, .ref g22, .ref g23, .ref g24, .ref g25, .ref g26, .ref g27, .ref g28, .ref g29, .ref g30, .int 0])), (g0, .inl (cS, 266, .inl f))] H := hP
  have hD : va_D A [(m0, .inr (12, [.ref g0, .ref g1, .ref g2, .ref g3, .ref g4, .int 0, .int 0, .int 0, .int 0, .ref g9, .int 0, .int 0, .int 0, .int 0, .int (-1), .int 0, .int 0, .ref g17, .ref g18, .int 0, .ref g20, .ref g21, .ref g22, .ref g23, .ref g24, .ref g25, .ref g26, .ref g27, .ref g28, .ref g29, .ref g30, .int 0])), (g0, .inl (cS, 266, .inl f))] := hD
  refine lv_iload_n hx hb dX12_count_5 rfl (lv_at hl 1 rfl) ?_
  rcases sw7 k0 with rfl | rfl | rfl | rfl | rfl | rfl | rfl | hsw
  · refine lv_tableIn (off := 42) (tgt := 48) hx hb dX12_count_6 (by decide) (by decide) rfl (by decide) ?_
    refine lv_aload_n hx hb dX12_count_48 rfl (lv_at hl 0 rfl) ?_
    refine va_get (D := (dC, dI)) (ci := 12) (v := .int 0) (C := RX12) (T := TX12) (N := 32) hx hb hT iX12 hown hK hP 0 rfl rfl 5 (by decide) (hT _ w1087) (fun _ h9 => h9) rfl dX12_count_49 ?_
    refine W.widen (k := 0) (n := 0) (Nat.le_of_ble_eq_true rfl) (Nat.le_of_ble_eq_true rfl) ?_
    exact W.iret (v := 0) hx hb hr (fun t ht hW => ⟨⟨0, (), rfl, (by decide), trivial⟩, hS.F ht⟩) hS.2.2 dX12_count_52
  · refine lv_tableIn (off := 47) (tgt := 53) hx hb dX12_count_6 (by decide) (by decide) rfl (by decide) ?_
    refine lv_aload_n hx hb dX12_count_53 rfl (lv_at hl 0 rfl) ?_
    refine va_get (D := (dC, dI)) (ci := 12) (v := .int 0) (C := RX12) (T := TX12) (N := 32) hx hb hT iX12 hown hK hP 0 rfl rfl 6 (by decide) (hT _ w1088) (fun _ h9 => h9) rfl dX12_count_54 ?_
    refine W.widen (k := 0) (n := 0) (Nat.le_of_ble_eq_true rfl) (Nat.le_of_ble_eq_true rfl) ?_
    exact W.iret (v := 0) hx hb hr (fun t ht hW => ⟨⟨0, (), rfl, (by decide), trivial⟩, hS.F ht⟩) hS.2.2 dX12_count_57
  · refine lv_tableIn (off := 52) (tgt := 58) hx hb dX12_count_6 (by decide) (by decide) rfl (by decide) ?_
    refine lv_aload_n hx hb dX12_count_58 rfl (lv_at hl 0 rfl) ?_
    refine va_get (D := (dC, dI)) (ci := 12) (v := .ref g0) (C := RX12) (T := TX12) (N := 32) hx hb hT iX12 hown hK hP 0 rfl rfl 0 (by decide) (hT _ w1082) (fun _ h9 => h9) rfl dX12_count_59 ?_
    refine lv_iconst (v := 0) hx hb dX12_count_62 (by decide) ?_
    refine va_iald hx hb hK hP 1 0 rfl rfl (by unfold vp_in; decide) dX12_count_63 ?_
    refine lv_topi (fun x_1 ex_1 => ?_)
    obtain rfl : x_1 = 0 := ex_1.trans hf0
    refine W.widen (k := 0) (n := 0) (Nat.le_of_ble_eq_true rfl) (Nat.le_of_ble_eq_true rfl) ?_
    exact W.iret (v := 0) hx hb hr (fun t ht hW => ⟨⟨0, (), rfl, (by decide), trivial⟩, hS.F ht⟩) hS.2.2 dX12_count_64
  · refine lv_tableIn (off := 59) (tgt := 65) hx hb dX12_count_6 (by decide) (by decide) rfl (by decide) ?_
    refine lv_aload_n hx hb dX12_count_65 rfl (lv_at hl 0 rfl) ?_
    have hPc := hP.sub (ws' := [(m0, .inr (12, [.ref g0, .ref g1, .ref g2, .ref g3, .ref g4, .int 0, .int 0, .int 0, .int 0, .ref g9, .int 0, .int 0, .int 0, .int 0, .int (-1), .int 0, .int 0, .ref g17, .ref g18, .int 0, .ref g20, .ref g21, .ref g22, .ref g23, .ref g24, .ref g25, .ref g26, .ref g27, .ref g28, .ref g29, .ref g30, .int 0])), (g0, .inl (cS, 266, .inl f))]) [0, 1] rfl
    have hDc := hD.sub (ws' := [(m0, .inr (12, [.ref g0, .ref g1, .ref g2, .ref g3, .ref g4, .int 0, .int 0, .int 0, .int 0, .ref g9, .int 0, .int 0, .int 0, .int 0, .int (-1), .int 0, .int 0, .ref g17, .ref g18, .int 0, .ref g20, .ref g21, .ref g22, .ref g23, .ref g24, .ref g25, .ref g26, .ref g27, .ref g28, .ref g29, .ref g30, .int 0])), (g0, .inl (cS, 266, .inl f))]) [0, 1] (by decide) rfl
    have hKc := hK.sub (tys' := [(cS, .int)]) [0] rfl
    refine vp_callSi (va_Run.run (va_runV (As := []) (rest := []) ⟨hx, hb, hml, hown, hT⟩ (m_kept l dC dI m0 g0 g1 g2 g3 g4 g9 g17 g18 g20 g21 g22 g23 g24 g25 g26 g27 g28 g29 g30 cS f H.size hf0) (cwV 0 hT (gV w1584 w1586 ws110 w14 w1587) rfl rfl rfl (by decide +kernel) ⟨(Nat.le_of_ble_eq_true rfl), (Nat.le_of_ble_eq_true rfl)⟩) ⟨pcW.blind, va_recv hKc hPc (ci := 12) (q0 := 0) rfl rfl, pcW.pre hPc hKc hDc⟩ rfl rfl hl.1 rfl (lv_room (Nat.le_of_ble_eq_true rfl)) dX12_count_66 ⟨(Nat.le_of_ble_eq_true rfl), (Nat.le_of_ble_eq_true rfl)⟩)) (fun r_66 hr_66 => ?_)
    obtain rfl : r_66 = 0 := hr_66
    refine W.widen (k := 0) (n := 0) (Nat.le_of_ble_eq_true rfl) (Nat.le_of_ble_eq_true rfl) ?_
    exact W.iret (v := 0) hx hb hr (fun t ht hW => ⟨⟨0, (), rfl, (by decide), trivial⟩, hS.F ht⟩) hS.2.2 dX12_count_69
  · refine lv_tableIn (off := 64) (tgt := 70) hx hb dX12_count_6 (by decide) (by decide) rfl (by decide) ?_
    refine lv_aload_n hx hb dX12_count_70 rfl (lv_at hl 0 rfl) ?_
    refine va_get (D := (dC, dI)) (ci := 12) (v := .ref g0) (C := RX12) (T := TX12) (N := 32) hx hb hT iX12 hown hK hP 0 rfl rfl 0 (by decide) (hT _ w1082) (fun _ h9 => h9) rfl dX12_count_71 ?_
    refine lv_iconst (v := 1) hx hb dX12_count_74 (by decide) ?_
    refine va_iald hx hb hK hP 1 0 rfl rfl (by unfold vp_in; decide) dX12_count_75 ?_
    refine lv_topi (fun x_2 ex_2 => ?_)
    obtain rfl : x_2 = 0 := ex_2.trans hf1
    refine W.widen (k := 0) (n := 0) (Nat.le_of_ble_eq_true rfl) (Nat.le_of_ble_eq_true rfl) ?_
    exact W.iret (v := 0) hx hb hr (fun t ht hW => ⟨⟨0, (), rfl, (by decide), trivial⟩, hS.F ht⟩) hS.2.2 dX12_count_76
  · refine lv_tableIn (off := 71) (tgt := 77) hx hb dX12_count_6 (by decide) (by decide) rfl (by decide) ?_
    refine lv_aload_n hx hb dX12_count_77 rfl (lv_at hl 0 rfl) ?_
    refine va_get (D := (dC, dI)) (ci := 12) (v := .int 0) (C := RX12) (T := TX12) (N := 32) hx hb hT iX12 hown hK hP 0 rfl rfl 7 (by decide) (hT _ w1089) (fun _ h9 => h9) rfl dX12_count_78 ?_
    refine W.widen (k := 0) (n := 0) (Nat.le_of_ble_eq_true rfl) (Nat.le_of_ble_eq_true rfl) ?_
    exact W.iret (v := 0) hx hb hr (fun t ht hW => ⟨⟨0, (), rfl, (by decide), trivial⟩, hS.F ht⟩) hS.2.2 dX12_count_81
  · refine lv_tableIn (off := 76) (tgt := 82) hx hb dX12_count_6 (by decide) (by decide) rfl (by decide) ?_
    refine lv_aload_n hx hb dX12_count_82 rfl (lv_at hl 0 rfl) ?_
    refine va_get (D := (dC, dI)) (ci := 12) (v := .int 0) (C := RX12) (T := TX12) (N := 32) hx hb hT iX12 hown hK hP 0 rfl rfl 10 (by decide) (hT _ w1092) (fun _ h9 => h9) rfl dX12_count_83 ?_
    refine W.widen (k := 0) (n := 0) (Nat.le_of_ble_eq_true rfl) (Nat.le_of_ble_eq_true rfl) ?_
    exact W.iret (v := 0) hx hb hr (fun t ht hW => ⟨⟨0, (), rfl, (by decide), trivial⟩, hS.F ht⟩) hS.2.2 dX12_count_86
  · refine lv_tableOut (tgt := 87) hx hb dX12_count_6 hsw (by decide) ?_
    refine lv_iconst (v := (-1)) hx hb dX12_count_87 (by decide) ?_
    refine W.widen (k := 0) (n := 0) (Nat.le_of_ble_eq_true rfl) (Nat.le_of_ble_eq_true rfl) ?_
    exact W.iret (v := (-1)) hx hb hr (fun t ht hW => ⟨⟨(-1), (), rfl, (ct_d hsw), trivial⟩, hS.F ht⟩) hS.2.2 dX12_count_88

set_option maxHeartbeats 4000000 in
set_option maxRecDepth 100000 in
theorem c_undo (l : Launch) (dC : Nat → ClassId) (dI : Nat → Nat → Nat) (h0 : Nat) (a0 : Nat) (a1 : Nat) (a2 : Nat) (a3 : Nat) (a4 : Nat) (a5 : Nat) (a6 : Nat) (a7 : Nat) (a8 : Nat) (a9 : Nat) (n0 : Nat) (b0 : Nat) (ba : Nat) (sz : Nat) : Met l yX11_undo (wT yX11_undo cX11_undo 1 (some .int)) ({ frames := 0, cells := 0, slots := 0, locals := 0 }) (pcW dC dI [.ref h0] sz [(h0, .inr (11, [.ref a0, .ref a1, .ref a2, .ref a3, .ref a4, .ref a5, .ref a6, .ref a7, .ref a8, .ref a9, .ref n0, .ref b0, .int (-1)])), (a2, .inr (5, [.ref ba, .int 0]))] []) (vp_Si (fun r => r = (-5))) 0 0 (fun _ => False) := by
  refine Met.ofW (cc := cX11_undo) (maxL := 1) (ret := (some .int)) (by decide) rfl ?_
  intro p e s m args below meth c s₁ B hml hv
  obtain ⟨rfl, hsz, hP, hK, hD0⟩ := hv
  have hx := B.exec
  have hb := B.bytes
  have hr := B.returns
  have hT : ∀ w ∈ TB, w.before [.ref h0].toArray s = true := fun w h => atoms_spec (ws := wT yX11_undo cX11_undo 1 (some .int)) B.pre w (List.mem_cons_of_mem _ h)
  have hown : s.vm.findClass RX11 = some m.cls := findClass_of_methodNamed B.named
  have hlocks := B.notSynchronized
  subst hsz
  have hD := hD0
  have hP : va_P (dC, dI) vwCl [(h0, .inr (11, [.ref a0, .ref a1, .ref a2, .ref a3, .ref a4, .ref a5, .ref a6, .ref a7, .ref a8, .ref a9, .ref n0, .ref b0, .int (-1)])), (a2, .inr (5, [.ref ba, .int 0]))] s.heap := hP
  have hl := lv_entry ([.ref h0]) (n := 1) (Nat.le_of_ble_eq_true rfl)
  rw [lg_entry_eq]
  generalize (lg_sl ([.ref h0]) ++ List.replicate (1 - (lg_sl ([.ref h0])).length) Slot.unset).toArray = ls at hl ⊢
  have hl : lv_has ls 1 [(0, .ref h0)] := hl
  refine lv_aload_n hx hb dX11_undo_0 rfl (lv_at hl 0 rfl) ?_
  refine va_get (D := (dC, dI)) (ci := 11) (v := .ref a2) (C := RX11) (T := TX11) (N := 13) hx hb hT iX11 hown hK hP 0 rfl rfl 2 (by decide) (hT _ w355) (fun _ h9 => h9) rfl dX11_undo_1 ?_
  refine va_get (D := (dC, dI)) (ci := 5) (v := .int 0) (C := RX5) (T := TX5) (N := 2) hx hb hT iX5 hown hK hP 1 rfl rfl 1 (by decide) (hT _ w185) (fun _ h9 => h9) rfl dX11_undo_4 ?_
  refine lv_if_ne (tgt := 13) hx hb dX11_undo_7 (by decide) (fun h => absurd (by decide) h) (fun _ => ?_)
  refine lv_bipush (v := (-5)) hx hb dX11_undo_10 (by decide) ?_
  exact W.iret (v := (-5)) hx hb hr (fun t ht hW => ⟨(-5), rfl, rfl, ht⟩) (fun q h => by cases h) dX11_undo_12

set_option maxHeartbeats 4000000 in
set_option maxRecDepth 100000 in
theorem m_undo (l : Launch) (dC : Nat → ClassId) (dI : Nat → Nat → Nat) (m0 : Nat) (g0 : Nat) (g1 : Nat) (g2 : Nat) (g3 : Nat) (g4 : Nat) (g9 : Nat) (g17 : Nat) (g18 : Nat) (g20 : Nat) (g21 : Nat) (g22 : Nat) (g23 : Nat) (g24 : Nat) (g25 : Nat) (g26 : Nat) (g27 : Nat) (g28 : Nat) (g29 : Nat) (g30 : Nat) (sz : Nat) : Met l yX12_undo (wT yX12_undo cX12_undo 2 (some .int)) ({ frames := 0, cells := 0, slots := 0, locals := 0 }) (pcW dC dI [.ref m0] sz [(m0, .inr (12, [.ref g0, .ref g1, .ref g2, .ref g3, .ref g4, .int 0, .int 0, .int 0, .int 0, .ref g9, .int 0, .int 0, .int 0, .int 0, .int (-1), .int 0, .int 0, .ref g17, .ref g18, .int 0, .ref g20, .ref g21, .ref g22, .ref g23, .ref g24, .ref g25, .ref g26, .ref g27, .ref g28, .ref g29, .ref g30, .int 0]))] []) (va_Qi (fun (r : Int32) (_ : Unit) => r = (-5)) (fun _ _ => True) (va_A [(m0, .inr (12, [.ref g0, .ref g1, .ref g2, .ref g3, .ref g4, .int 0, .int 0, .int 0, .int 0, .ref g9, .int 0, .int 0, .int 0, .int 0, .int (-1), .int 0, .int 0, .ref g17, .ref g18, .int 0, .ref g20, .ref g21, .ref g22, .ref g23, .ref g24, .ref g25, .ref g26, .ref g27, .ref g28, .ref g29, .ref g30, .int 0]))] sz)) 0 0 (va_A [(m0, .inr (12, [.ref g0, .ref g1, .ref g2, .ref g3, .ref g4, .int 0, .int 0, .int 0, .int 0, .ref g9, .int 0, .int 0, .int 0, .int 0, .int (-1), .int 0, .int 0, .ref g17, .ref g18, .int 0, .ref g20, .ref g21, .ref g22, .ref g23, .ref g24, .ref g25, .ref g26, .ref g27, .ref g28, .ref g29, .ref g30, .int 0]))] sz) := by
  refine Met.ofW (cc := cX12_undo) (maxL := 2) (ret := (some .int)) (by decide) rfl ?_
  intro p e s m args below meth c s₁ B hml hv
  obtain ⟨rfl, hsz, hP, hK, hD0⟩ := hv
  have hx := B.exec
  have hb := B.bytes
  have hr := B.returns
  have hT : ∀ w ∈ TB, w.before [.ref m0].toArray s = true := fun w h => atoms_spec (ws := wT yX12_undo cX12_undo 2 (some .int)) B.pre w (List.mem_cons_of_mem _ h)
  have hown : s.vm.findClass RX12 = some m.cls := findClass_of_methodNamed B.named
  have hlocks := B.notSynchronized
  subst hsz
  have hD := hD0.self (sz := s.heap.size)
  generalize hAe : va_A [(m0, .inr (12, [.ref g0, .ref g1, .ref g2, .ref g3, .ref g4, .int 0, .int 0, .int 0, .int 0, .ref g9, .int 0, .int 0, .int 0, .int 0, .int (-1), .int 0, .int 0, .ref g17, .ref g18, .int 0, .ref g20, .ref g21, .ref g22, .ref g23, .ref g24, .ref g25, .ref g26, .ref g27, .ref g28, .ref g29, .ref g30, .int 0]))] s.heap.size = A at hD ⊢
  have hA : ∀ q : Nat, s.heap.size ≤ q → A q := fun q h => by rw [← hAe]; exact Or.inr h
  have hS : va_S A s.heap s.heap [] := va_S.rf
  have hP : va_P (dC, dI) vwCl [(m0, .inr (12, [.ref g0, .ref g1, .ref g2, .ref g3, .ref g4, .int 0, .int 0, .int 0, .int 0, .ref g9, .int 0, .int 0, .int 0, .int 0, .int (-1), .int 0, .int 0, .ref g17, .ref g18, .int 0, .ref g20, .ref g21, .ref g22, .ref g23, .ref g24, .ref g25, .ref g26, .ref g27, .ref g28, .ref g29, .ref g30, .int 0]))] s.heap := hP
  have hl := lv_entry ([.ref m0]) (n := 2) (Nat.le_of_ble_eq_true rfl)
  rw [lg_entry_eq]
  generalize (lg_sl ([.ref m0]) ++ List.replicate (2 - (lg_sl ([.ref m0])).length) Slot.unset).toArray = ls at hl ⊢
  have hl : lv_has ls 2 [(0, .ref m0)] := hl
  refine lv_aload_n hx hb dX12_undo_0 rfl (lv_at hl 0 rfl) ?_
  refine lv_iconst (v := 0) hx hb dX12_undo_1 (by decide) ?_
  refine va_put (D := (dC, dI)) (ci := 12) (v := .int 0) (ty := .int) (C := RX12) (T := TX12) (N := 32) hx hb hT iX12 tyX12 tyX12_ok nmX12 hown hK hP hD hS 0 rfl rfl 8 (by decide) (hT _ w1090) (fun _ h9 => h9) rfl (by decide +kernel) rfl rfl (Nat.le_of_ble_eq_true rfl) dX12_undo_2 (fun H locs hP hD hS => ?_)
  have hP : va_P (dC, dI) vwCl [(m0, .inr (12, [.ref g0, .ref g1, .ref g2, .ref g3, .ref g4, .int 0, .int 0, .int 0, .int 0, .ref g9, .int 0, .int 0, .int 0, .int 0, .int (-1), .int 0, .int 0, .ref g17, .ref g18, .int 0, .ref g20, .ref g21, .ref g22, .ref g23, .ref g24, .ref g25, .ref g26, .ref g27, .ref g28, .ref g29, .ref g30, .int 0]))] H := hP
  have hD : va_D A [(m0, .inr (12, [.ref g0, .ref g1, .ref g2, .ref g3, .ref g4, .int 0, .int 0, .int 0, .int 0, .ref g9, .int 0, .int 0, .int 0, .int 0, .int (-1), .int 0, .int 0, .ref g17, .ref g18, .int 0, .ref g20, .ref g21, .ref g22, .ref g23, .ref g24, .ref g25, .ref g26, .ref g27, .ref g28, .ref g29, .ref g30, .int 0]))] := hD
  refine lv_aload_n hx hb dX12_undo_5 rfl (lv_at hl 0 rfl) ?_
  refine va_get (D := (dC, dI)) (ci := 12) (v := .int 0) (C := RX12) (T := TX12) (N := 32) hx hb hT iX12 hown hK hP 0 rfl rfl 7 (by decide) (hT _ w1089) (fun _ h9 => h9) rfl dX12_undo_6 ?_
  refine lv_if_ne (tgt := 15) hx hb dX12_undo_9 (by decide) (fun h => absurd (by decide) h) (fun _ => ?_)
  refine lv_bipush (v := (-5)) hx hb dX12_undo_12 (by decide) ?_
  refine W.widen (k := 0) (n := 0) (Nat.le_of_ble_eq_true rfl) (Nat.le_of_ble_eq_true rfl) ?_
  exact W.iret (v := (-5)) hx hb hr (fun t ht hW => ⟨⟨(-5), (), rfl, rfl, trivial⟩, hS.F ht⟩) hS.2.2 dX12_undo_14

set_option maxHeartbeats 4000000 in
set_option maxRecDepth 100000 in
theorem c_all (l : Launch) (dC : Nat → ClassId) (dI : Nat → Nat → Nat) (h0 : Nat) (a0 : Nat) (a1 : Nat) (a2 : Nat) (a3 : Nat) (a4 : Nat) (a5 : Nat) (a6 : Nat) (a7 : Nat) (a8 : Nat) (a9 : Nat) (n0 : Nat) (b0 : Nat) (l0 : Nat) (l1 : Nat) (sz : Nat) : Met l yX11_all (wT yX11_all cX11_all 4 (some .int)) ({ frames := 0, cells := 0, slots := 0, locals := 0 }) (pcW dC dI [.ref h0] sz [(h0, .inr (11, [.ref a0, .ref a1, .ref a2, .ref a3, .ref a4, .ref a5, .ref a6, .ref a7, .ref a8, .ref a9, .ref n0, .ref b0, .int (-1)])), (n0, .inr (3, [.ref l0, .ref l1, .int 0, .int 0]))] []) (vp_Si (fun r => r = 0)) 0 0 (fun _ => False) := by
  refine Met.ofW (cc := cX11_all) (maxL := 4) (ret := (some .int)) (by decide) rfl ?_
  intro p e s m args below meth c s₁ B hml hv
  obtain ⟨rfl, hsz, hP, hK, hD0⟩ := hv
  have hx := B.exec
  have hb := B.bytes
  have hr := B.returns
  have hT : ∀ w ∈ TB, w.before [.ref h0].toArray s = true := fun w h => atoms_spec (ws := wT yX11_all cX11_all 4 (some .int)) B.pre w (List.mem_cons_of_mem _ h)
  have hown : s.vm.findClass RX11 = some m.cls := findClass_of_methodNamed B.named
  have hlocks := B.notSynchronized
  subst hsz
  have hD := hD0
  have hP : va_P (dC, dI) vwCl [(h0, .inr (11, [.ref a0, .ref a1, .ref a2, .ref a3, .ref a4, .ref a5, .ref a6, .ref a7, .ref a8, .ref a9, .ref n0, .ref b0, .int (-1)])), (n0, .inr (3, [.ref l0, .ref l1, .int 0, .int 0]))] s.heap := hP
  have hl := lv_entry ([.ref h0]) (n := 4) (Nat.le_of_ble_eq_true rfl)
  rw [lg_entry_eq]
  generalize (lg_sl ([.ref h0]) ++ List.replicate (4 - (lg_sl ([.ref h0])).length) Slot.unset).toArray = ls at hl ⊢
  have hl : lv_has ls 4 [(0, .ref h0)] := hl
  refine lv_lconst (v := 0) hx hb dX11_all_0 (by decide) ?_
  refine lv_lstore_n (lv' := [(1, .long 0), (0, .ref h0)]) hx hb dX11_all_1 rfl hl (by decide) rfl (fun ls hl => ?_)
  refine lv_iconst (v := 0) hx hb dX11_all_2 (by decide) ?_
  refine lv_istore_n (lv' := [(3, .int 0), (1, .long 0), (0, .ref h0)]) hx hb dX11_all_3 rfl hl (by decide) rfl (fun ls hl => ?_)
  refine lv_iload_n hx hb dX11_all_4 rfl (lv_at hl 0 rfl) ?_
  refine lv_aload_n hx hb dX11_all_5 rfl (lv_at hl 2 rfl) ?_
  refine va_get (D := (dC, dI)) (ci := 11) (v := .ref n0) (C := RX11) (T := TX11) (N := 13) hx hb hT iX11 hown hK hP 0 rfl rfl 10 (by decide) (hT _ w363) (fun _ h9 => h9) rfl dX11_all_6 ?_
  refine va_get (D := (dC, dI)) (ci := 3) (v := .int 0) (C := RX3) (T := TX3) (N := 4) hx hb hT iX3 hown hK hP 1 rfl rfl 3 (by decide) (hT _ w67) (fun _ h9 => h9) rfl dX11_all_9 ?_
  refine lv_icmp_ge (tgt := 56) hx hb dX11_all_12 (by decide) (fun _ => ?_) (fun h => absurd (by decide) h)
  refine lv_lload_n hx hb dX11_all_56 rfl (lv_at hl 1 rfl) ?_
  refine lv_l2i (v := 0) hx hb dX11_all_57 (by decide) ?_
  exact W.iret (v := 0) hx hb hr (fun t ht hW => ⟨0, rfl, rfl, ht⟩) (fun q h => by cases h) dX11_all_58

set_option maxHeartbeats 4000000 in
set_option maxRecDepth 100000 in
theorem m_all (l : Launch) (dC : Nat → ClassId) (dI : Nat → Nat → Nat) (m0 : Nat) (g0 : Nat) (g1 : Nat) (g2 : Nat) (g3 : Nat) (g4 : Nat) (g9 : Nat) (g17 : Nat) (g18 : Nat) (g20 : Nat) (g21 : Nat) (g22 : Nat) (g23 : Nat) (g24 : Nat) (g25 : Nat) (g26 : Nat) (g27 : Nat) (g28 : Nat) (g29 : Nat) (g30 : Nat) (sz : Nat) : Met l yX12_all (wT yX12_all cX12_all 3 (some .int)) ({ frames := 0, cells := 0, slots := 0, locals := 0 }) (pcW dC dI [.ref m0] sz [(m0, .inr (12, [.ref g0, .ref g1, .ref g2, .ref g3, .ref g4, .int 0, .int 0, .int 0, .int 0, .ref g9, .int 0, .int 0, .int 0, .int 0, .int (-1), .int 0, .int 0, .ref g17, .ref g18, .int 0, .ref g20, .ref g21, .ref g22, .ref g23, .ref g24, .ref g25, .ref g26, .ref g27, .ref g28, .ref g29, .ref g30, .int 0]))] []) (va_Qi (fun (r : Int32) (_ : Unit) => r = 0) (fun _ _ => True) (va_A [(m0, .inr (12, [.ref g0, .ref g1, .ref g2, .ref g3, .ref g4, .int 0, .int 0, .int 0, .int 0, .ref g9, .int 0, .int 0, .int 0, .int 0, .int (-1), .int 0, .int 0, .ref g17, .ref g18, .int 0, .ref g20, .ref g21, .ref g22, .ref g23, .ref g24, .ref g25, .ref g26, .ref g27, .ref g28, .ref g29, .ref g30, .int 0]))] sz)) 0 0 (va_A [(m0, .inr (12, [.ref g0, .ref g1, .ref g2, .ref g3, .ref g4, .int 0, .int 0, .int 0, .int 0, .ref g9, .int 0, .int 0, .int 0, .int 0, .int (-1), .int 0, .int 0, .ref g17, .ref g18, .int 0, .ref g20, .ref g21, .ref g22, .ref g23, .ref g24, .ref g25, .ref g26, .ref g27, .ref g28, .ref g29, .ref g30, .int 0]))] sz) := by
  refine Met.ofW (cc := cX12_all) (maxL := 3) (ret := (some .int)) (by decide) rfl ?_
  intro p e s m args below meth c s₁ B hml hv
  obtain ⟨rfl, hsz, hP, hK, hD0⟩ := hv
  have hx := B.exec
  have hb := B.bytes
  have hr := B.returns
  have hT : ∀ w ∈ TB, w.before [.ref m0].toArray s = true := fun w h => atoms_spec (ws := wT yX12_all cX12_all 3 (some .int)) B.pre w (List.mem_cons_of_mem _ h)
  have hown : s.vm.findClass RX12 = some m.cls := findClass_of_methodNamed B.named
  have hlocks := B.notSynchronized
  subst hsz
  have hD := hD0.self (sz := s.heap.size)
  generalize hAe : va_A [(m0, .inr (12, [.ref g0, .ref g1, .ref g2, .ref g3, .ref g4, .int 0, .int 0, .int 0, .int 0, .ref g9, .int 0, .int 0, .int 0, .int 0, .int (-1), .int 0, .int 0, .ref g17, .ref g18, .int 0, .ref g20, .ref g21, .ref g22, .ref g23, .ref g24, .ref g25, .ref g26, .ref g27, .ref g28, .ref g29, .ref g30, .int 0]))] s.heap.size = A at hD ⊢
  have hA : ∀ q : Nat, s.heap.size ≤ q → A q := fun q h => by rw [← hAe]; exact Or.inr h
  have hS : va_S A s.heap s.heap [] := va_S.rf
  have hP : va_P (dC, dI) vwCl [(m0, .inr (12, [.ref g0, .ref g1, .ref g2, .ref g3, .ref g4, .int 0, .int 0, .int 0, .int 0, .ref g9, .int 0, .int 0, .int 0, .int 0, .int (-1), .int 0, .int 0, .ref g17, .ref g18, .int 0, .ref g20, .ref g21, .ref g22, .ref g23, .ref g24, .ref g25, .ref g26, .ref g27, .ref g28, .ref g29, .ref g30, .int 0]))] s.heap := hP
  have hl := lv_entry ([.ref m0]) (n := 3) (Nat.le_of_ble_eq_true rfl)
  rw [lg_entry_eq]
  generalize (lg_sl ([.ref m0]) ++ List.replicate (3 - (lg_sl ([.ref m0])).length) Slot.unset).toArray = ls at hl ⊢
  have hl : lv_has ls 3 [(0, .ref m0)] := hl
  refine lv_aload_n hx hb dX12_all_0 rfl (lv_at hl 0 rfl) ?_
  refine lv_iconst (v := 0) hx hb dX12_all_1 (by decide) ?_
  refine va_put (D := (dC, dI)) (ci := 12) (v := .int 0) (ty := .int) (C := RX12) (T := TX12) (N := 32) hx hb hT iX12 tyX12 tyX12_ok nmX12 hown hK hP hD hS 0 rfl rfl 8 (by decide) (hT _ w1090) (fun _ h9 => h9) rfl (by decide +kernel) rfl rfl (Nat.le_of_ble_eq_true rfl) dX12_all_2 (fun H locs hP hD hS => ?_)
  have hP : va_P (dC, dI) vwCl [(m0, .inr (12, [.ref g0, .ref g1, .ref g2, .ref g3, .ref g4, .int 0, .int 0, .int 0, .int 0, .ref g9, .int 0, .int 0, .int 0, .int 0, .int (-1), .int 0, .int 0, .ref g17, .ref g18, .int 0, .ref g20, .ref g21, .ref g22, .ref g23, .ref g24, .ref g25, .ref g26, .ref g27, .ref g28, .ref g29, .ref g30, .int 0]))] H := hP
  have hD : va_D A [(m0, .inr (12, [.ref g0, .ref g1, .ref g2, .ref g3, .ref g4, .int 0, .int 0, .int 0, .int 0, .ref g9, .int 0, .int 0, .int 0, .int 0, .int (-1), .int 0, .int 0, .ref g17, .ref g18, .int 0, .ref g20, .ref g21, .ref g22, .ref g23, .ref g24, .ref g25, .ref g26, .ref g27, .ref g28, .ref g29, .ref g30, .int 0]))] := hD
  refine lv_iconst (v := 0) hx hb dX12_all_5 (by decide) ?_
  refine lv_istore_n (lv' := [(1, .int 0), (0, .ref m0)]) hx hb dX12_all_6 rfl hl (by decide) rfl (fun ls hl => ?_)
  refine lv_iconst (v := 0) hx hb dX12_all_7 (by decide) ?_
  refine lv_istore_n (lv' := [(2, .int 0), (1, .int 0), (0, .ref m0)]) hx hb dX12_all_8 rfl hl (by decide) rfl (fun ls hl => ?_)
  refine lv_iload_n hx hb dX12_all_9 rfl (lv_at hl 0 rfl) ?_
  refine lv_aload_n hx hb dX12_all_10 rfl (lv_at hl 2 rfl) ?_
  refine va_get (D := (dC, dI)) (ci := 12) (v := .int 0) (C := RX12) (T := TX12) (N := 32) hx hb hT iX12 hown hK hP 0 rfl rfl 6 (by decide) (hT _ w1088) (fun _ h9 => h9) rfl dX12_all_11 ?_
  refine lv_icmp_ge (tgt := 45) hx hb dX12_all_14 (by decide) (fun _ => ?_) (fun h => absurd (by decide) h)
  refine lv_iload_n hx hb dX12_all_45 rfl (lv_at hl 1 rfl) ?_
  refine W.widen (k := 0) (n := 0) (Nat.le_of_ble_eq_true rfl) (Nat.le_of_ble_eq_true rfl) ?_
  exact W.iret (v := 0) hx hb hr (fun t ht hW => ⟨⟨0, (), rfl, rfl, trivial⟩, hS.F ht⟩) hS.2.2 dX12_all_46

set_option maxHeartbeats 4000000 in
set_option maxRecDepth 100000 in
theorem c_copyFrom (l : Launch) (dC : Nat → ClassId) (dI : Nat → Nat → Nat) (p0 : Nat) (q0 : Nat) (q1 : Nat) (q2 : Nat) (q3 : Nat) (q4 : Nat) (q5 : Nat) (cQ : ClassId) (fq : Nat → Int32) (b0 : Nat) (e0 : Nat) (e1 : Nat) (e2 : Nat) (e3 : Nat) (e4 : Nat) (e5 : Nat) (cC : ClassId) (fc : Nat → Int32) (sz : Nat) : Met l yX0_copyFrom (wT yX0_copyFrom cX0_copyFrom 3 none) ({ frames := 1, cells := 0, slots := 0, locals := 40 }) (pcW dC dI [.ref p0, .ref b0] sz [(p0, .inr (0, [.ref q0, .ref q1, .ref q2, .ref q3, .ref q4, .ref q5, .int 0, .int 0])), (q5, .inl (cQ, 64, .inl fq)), (b0, .inr (0, [.ref e0, .ref e1, .ref e2, .ref e3, .ref e4, .ref e5, .int 0, .int 0])), (e5, .inl (cC, 64, .inl fc))] [(cQ, .int), (cC, .int)]) (va_Qv (fun _ : Unit => True) (fun _ t => pB dC dI (va_A [(p0, .inr (0, [.ref q0, .ref q1, .ref q2, .ref q3, .ref q4, .ref q5, .int 0, .int 0])), (q5, .inl (cQ, 64, .inl fq)), (b0, .inr (0, [.ref e0, .ref e1, .ref e2, .ref e3, .ref e4, .ref e5, .int 0, .int 0])), (e5, .inl (cC, 64, .inl fc))] sz) [(b0, .inr (0, [.ref e0, .ref e1, .ref e2, .ref e3, .ref e4, .ref e5, .int 0, .int 0]))] [] t) (va_A [(p0, .inr (0, [.ref q0, .ref q1, .ref q2, .ref q3, .ref q4, .ref q5, .int 0, .int 0])), (q5, .inl (cQ, 64, .inl fq)), (b0, .inr (0, [.ref e0, .ref e1, .ref e2, .ref e3, .ref e4, .ref e5, .int 0, .int 0])), (e5, .inl (cC, 64, .inl fc))] sz)) 0 0 (va_A [(p0, .inr (0, [.ref q0, .ref q1, .ref q2, .ref q3, .ref q4, .ref q5, .int 0, .int 0])), (q5, .inl (cQ, 64, .inl fq)), (b0, .inr (0, [.ref e0, .ref e1, .ref e2, .ref e3, .ref e4, .ref e5, .int 0, .int 0])), (e5, .inl (cC, 64, .inl fc))] sz) := by
  refine Met.ofW (cc := cX0_copyFrom) (maxL := 3) (ret := none) (by decide) rfl ?_
  intro p e s m args below meth c s₁ B hml hv
  obtain ⟨rfl, hsz, hP, hK, hD0⟩ := hv
  have hx := B.exec
  have hb := B.bytes
  have hr := B.returns
  have hT : ∀ w ∈ TB, w.before [.ref p0, .ref b0].toArray s = true := fun w h => atoms_spec (ws := wT yX0_copyFrom cX0_copyFrom 3 none) B.pre w (List.mem_cons_of_mem _ h)
  have hown : s.vm.findClass RX0 = some m.cls := findClass_of_methodNamed B.named
  have hlocks := B.notSynchronized
  subst hsz
  have hD := hD0.self (sz := s.heap.size)
  generalize hAe : va_A [(p0, .inr (0, [.ref q0, .ref q1, .ref q2, .ref q3, .ref q4, .ref q5, .int 0, .int 0])), (q5, .inl (cQ, 64, .inl fq)), (b0, .inr (0, [.ref e0, .ref e1, .ref e2, .ref e3, .ref e4, .ref e5, .int 0, .int 0])), (e5, .inl (cC, 64, .inl fc))] s.heap.size = A at hD ⊢
  have hA : ∀ q : Nat, s.heap.size ≤ q → A q := fun q h => by rw [← hAe]; exact Or.inr h
  have hS : va_S A s.heap s.heap [] := va_S.rf
  have hP : va_P (dC, dI) vwCl [(p0, .inr (0, [.ref q0, .ref q1, .ref q2, .ref q3, .ref q4, .ref q5, .int 0, .int 0])), (q5, .inl (cQ, 64, .inl fq)), (b0, .inr (0, [.ref e0, .ref e1, .ref e2, .ref e3, .ref e4, .ref e5, .int 0, .int 0])), (e5, .inl (cC, 64, .inl fc))] s.heap := hP
  have hl := lv_entry ([.ref p0, .ref b0]) (n := 3) (Nat.le_of_ble_eq_true rfl)
  rw [lg_entry_eq]
  generalize (lg_sl ([.ref p0, .ref b0]) ++ List.replicate (3 - (lg_sl ([.ref p0, .ref b0])).length) Slot.unset).toArray = ls at hl ⊢
  have hl : lv_has ls 3 [(0, .ref p0), (1, .ref b0)] := hl
  refine lv_iconst (v := 0) hx hb dX0_copyFrom_0 (by decide) ?_
  refine lv_istore_n (lv' := [(2, .int 0), (0, .ref p0), (1, .ref b0)]) hx hb dX0_copyFrom_1 rfl hl (by decide) rfl (fun ls hl => ?_)
  refine lv_iload_n hx hb dX0_copyFrom_2 rfl (lv_at hl 0 rfl) ?_
  refine lv_aload_n hx hb dX0_copyFrom_3 rfl (lv_at hl 2 rfl) ?_
  refine va_get (D := (dC, dI)) (ci := 0) (v := .int 0) (C := RX0) (T := TX0) (N := 8) hx hb hT iX0 hown hK hP 2 rfl rfl 6 (by decide) (hT _ w112) (fun _ h9 => h9) rfl dX0_copyFrom_4 ?_
  refine lv_icmp_ge (tgt := 23) hx hb dX0_copyFrom_7 (by decide) (fun _ => ?_) (fun h => absurd (by decide) h)
  refine lv_aload_n hx hb dX0_copyFrom_23 rfl (lv_at hl 2 rfl) ?_
  refine va_get (D := (dC, dI)) (ci := 0) (v := .ref e5) (C := RX0) (T := TX0) (N := 8) hx hb hT iX0 hown hK hP 2 rfl rfl 5 (by decide) (hT _ w109) (fun _ h9 => h9) rfl dX0_copyFrom_24 ?_
  refine lv_iconst (v := 0) hx hb dX0_copyFrom_27 (by decide) ?_
  refine lv_aload_n hx hb dX0_copyFrom_28 rfl (lv_at hl 1 rfl) ?_
  refine va_get (D := (dC, dI)) (ci := 0) (v := .ref q5) (C := RX0) (T := TX0) (N := 8) hx hb hT iX0 hown hK hP 0 rfl rfl 5 (by decide) (hT _ w109) (fun _ h9 => h9) rfl dX0_copyFrom_29 ?_
  refine lv_iconst (v := 0) hx hb dX0_copyFrom_32 (by decide) ?_
  refine lv_bipush (v := 64) hx hb dX0_copyFrom_33 (by decide) ?_
  refine va_copyi (f := fc) (g := fq) (ty := .int) hx hb (hml.trans hl.1.symm) hown (hT _ w631) (hT _ w633) (hT _ w632) (hT _ w20) hK hP hD hS 3 1 1 0 rfl rfl rfl rfl rfl (by decide) (by decide) (by decide) (by decide) (by decide) (fun _ _ => rfl) (Nat.le_of_ble_eq_true rfl) (Nat.le_of_ble_eq_true rfl) dX0_copyFrom_35 (fun H locs hP hD hS => ?_)
  generalize va_cpy fc fq _ _ _ = f_1 at hP hD
  have hP : va_P (dC, dI) vwCl [(p0, .inr (0, [.ref q0, .ref q1, .ref q2, .ref q3, .ref q4, .ref q5, .int 0, .int 0])), (q5, .inl (cQ, 64, .inl f_1)), (b0, .inr (0, [.ref e0, .ref e1, .ref e2, .ref e3, .ref e4, .ref e5, .int 0, .int 0])), (e5, .inl (cC, 64, .inl fc))] H := hP
  have hD : va_D A [(p0, .inr (0, [.ref q0, .ref q1, .ref q2, .ref q3, .ref q4, .ref q5, .int 0, .int 0])), (q5, .inl (cQ, 64, .inl f_1)), (b0, .inr (0, [.ref e0, .ref e1, .ref e2, .ref e3, .ref e4, .ref e5, .int 0, .int 0])), (e5, .inl (cC, 64, .inl fc))] := hD
  refine lv_aload_n hx hb dX0_copyFrom_38 rfl (lv_at hl 1 rfl) ?_
  refine lv_aload_n hx hb dX0_copyFrom_39 rfl (lv_at hl 2 rfl) ?_
  refine va_get (D := (dC, dI)) (ci := 0) (v := .int 0) (C := RX0) (T := TX0) (N := 8) hx hb hT iX0 hown hK hP 2 rfl rfl 6 (by decide) (hT _ w112) (fun _ h9 => h9) rfl dX0_copyFrom_40 ?_
  refine va_put (D := (dC, dI)) (ci := 0) (v := .int 0) (ty := .int) (C := RX0) (T := TX0) (N := 8) hx hb hT iX0 tyX0 tyX0_ok nmX0 hown hK hP hD hS 0 rfl rfl 6 (by decide) (hT _ w112) (fun _ h9 => h9) rfl (by decide +kernel) rfl rfl (Nat.le_of_ble_eq_true rfl) dX0_copyFrom_43 (fun H locs hP hD hS => ?_)
  have hP : va_P (dC, dI) vwCl [(p0, .inr (0, [.ref q0, .ref q1, .ref q2, .ref q3, .ref q4, .ref q5, .int 0, .int 0])), (q5, .inl (cQ, 64, .inl f_1)), (b0, .inr (0, [.ref e0, .ref e1, .ref e2, .ref e3, .ref e4, .ref e5, .int 0, .int 0])), (e5, .inl (cC, 64, .inl fc))] H := hP
  have hD : va_D A [(p0, .inr (0, [.ref q0, .ref q1, .ref q2, .ref q3, .ref q4, .ref q5, .int 0, .int 0])), (q5, .inl (cQ, 64, .inl f_1)), (b0, .inr (0, [.ref e0, .ref e1, .ref e2, .ref e3, .ref e4, .ref e5, .int 0, .int 0])), (e5, .inl (cC, 64, .inl fc))] := hD
  refine lv_aload_n hx hb dX0_copyFrom_46 rfl (lv_at hl 1 rfl) ?_
  refine lv_aload_n hx hb dX0_copyFrom_47 rfl (lv_at hl 2 rfl) ?_
  refine va_get (D := (dC, dI)) (ci := 0) (v := .int 0) (C := RX0) (T := TX0) (N := 8) hx hb hT iX0 hown hK hP 2 rfl rfl 7 (by decide) (hT _ w116) (fun _ h9 => h9) rfl dX0_copyFrom_48 ?_
  refine va_put (D := (dC, dI)) (ci := 0) (v := .int 0) (ty := .int) (C := RX0) (T := TX0) (N := 8) hx hb hT iX0 tyX0 tyX0_ok nmX0 hown hK hP hD hS 0 rfl rfl 7 (by decide) (hT _ w116) (fun _ h9 => h9) rfl (by decide +kernel) rfl rfl (Nat.le_of_ble_eq_true rfl) dX0_copyFrom_51 (fun H locs hP hD hS => ?_)
  have hP : va_P (dC, dI) vwCl [(p0, .inr (0, [.ref q0, .ref q1, .ref q2, .ref q3, .ref q4, .ref q5, .int 0, .int 0])), (q5, .inl (cQ, 64, .inl f_1)), (b0, .inr (0, [.ref e0, .ref e1, .ref e2, .ref e3, .ref e4, .ref e5, .int 0, .int 0])), (e5, .inl (cC, 64, .inl fc))] H := hP
  have hD : va_D A [(p0, .inr (0, [.ref q0, .ref q1, .ref q2, .ref q3, .ref q4, .ref q5, .int 0, .int 0])), (q5, .inl (cQ, 64, .inl f_1)), (b0, .inr (0, [.ref e0, .ref e1, .ref e2, .ref e3, .ref e4, .ref e5, .int 0, .int 0])), (e5, .inl (cC, 64, .inl fc))] := hD
  refine W.widen (k := 0) (n := 0) (Nat.le_of_ble_eq_true rfl) (Nat.le_of_ble_eq_true rfl) ?_
  have hP9 := hP.sub (ws' := [(b0, .inr (0, [.ref e0, .ref e1, .ref e2, .ref e3, .ref e4, .ref e5, .int 0, .int 0]))]) [2] rfl
  have hD9 := hD.sub (ws' := [(b0, .inr (0, [.ref e0, .ref e1, .ref e2, .ref e3, .ref e4, .ref e5, .int 0, .int 0]))]) [2] (by decide) rfl
  have hK9 := hK.sub (tys' := []) [] rfl
  exact W.vret hx hb hr (fun t ht hW => ⟨⟨(), rfl, trivial, by rw [ht]; exact hP9, va_K.moved hW.alike hK9, hD9⟩, hS.F ht⟩) hS.2.2 dX0_copyFrom_54

set_option maxHeartbeats 4000000 in
set_option maxRecDepth 100000 in
theorem c_push (l : Launch) (dC : Nat → ClassId) (dI : Nat → Nat → Nat) (a2 : Nat) (ba : Nat) (cP : ClassId) (fp : Nat → Option Nat) (p0 : Nat) (q0 : Nat) (q1 : Nat) (q2 : Nat) (q3 : Nat) (q4 : Nat) (q5 : Nat) (cQ : ClassId) (fq : Nat → Int32) (b0 : Nat) (e0 : Nat) (e1 : Nat) (e2 : Nat) (e3 : Nat) (e4 : Nat) (e5 : Nat) (cC : ClassId) (fc : Nat → Int32) (sz : Nat) (hp0 : fp 0 = some p0) : Met l yX5_push (wT yX5_push cX5_push 2 none) ({ frames := 2, cells := 0, slots := 0, locals := 62 }) (pcW dC dI [.ref a2, .ref b0] sz [(a2, .inr (5, [.ref ba, .int 0])), (ba, .inl (cP, 10, .inr (.inr (.inr (.inr fp))))), (p0, .inr (0, [.ref q0, .ref q1, .ref q2, .ref q3, .ref q4, .ref q5, .int 0, .int 0])), (q5, .inl (cQ, 64, .inl fq)), (b0, .inr (0, [.ref e0, .ref e1, .ref e2, .ref e3, .ref e4, .ref e5, .int 0, .int 0])), (e5, .inl (cC, 64, .inl fc))] [(cP, .object RX0), (cQ, .int), (cC, .int)]) (va_Qv (fun _ : Unit => True) (fun _ t => pB dC dI (va_A [(a2, .inr (5, [.ref ba, .int 0])), (ba, .inl (cP, 10, .inr (.inr (.inr (.inr fp))))), (p0, .inr (0, [.ref q0, .ref q1, .ref q2, .ref q3, .ref q4, .ref q5, .int 0, .int 0])), (q5, .inl (cQ, 64, .inl fq)), (b0, .inr (0, [.ref e0, .ref e1, .ref e2, .ref e3, .ref e4, .ref e5, .int 0, .int 0])), (e5, .inl (cC, 64, .inl fc))] sz) [(b0, .inr (0, [.ref e0, .ref e1, .ref e2, .ref e3, .ref e4, .ref e5, .int 0, .int 0]))] [] t) (va_A [(a2, .inr (5, [.ref ba, .int 0])), (ba, .inl (cP, 10, .inr (.inr (.inr (.inr fp))))), (p0, .inr (0, [.ref q0, .ref q1, .ref q2, .ref q3, .ref q4, .ref q5, .int 0, .int 0])), (q5, .inl (cQ, 64, .inl fq)), (b0, .inr (0, [.ref e0, .ref e1, .ref e2, .ref e3, .ref e4, .ref e5, .int 0, .int 0])), (e5, .inl (cC, 64, .inl fc))] sz)) 0 0 (va_A [(a2, .inr (5, [.ref ba, .int 0])), (ba, .inl (cP, 10, .inr (.inr (.inr (.inr fp))))), (p0, .inr (0, [.ref q0, .ref q1, .ref q2, .ref q3, .ref q4, .ref q5, .int 0, .int 0])), (q5, .inl (cQ, 64, .inl fq)), (b0, .inr (0, [.ref e0, .ref e1, .ref e2, .ref e3, .ref e4, .ref e5, .int 0, .int 0])), (e5, .inl (cC, 64, .inl fc))] sz) := by
  refine Met.ofW (cc := cX5_push) (maxL := 2) (ret := none) (by decide) rfl ?_
  intro p e s m args below meth c s₁ B hml hv
  obtain ⟨rfl, hsz, hP, hK, hD0⟩ := hv
  have hx := B.exec
  have hb := B.bytes
  have hr := B.returns
  have hT : ∀ w ∈ TB, w.before [.ref a2, .ref b0].toArray s = true := fun w h => atoms_spec (ws := wT yX5_push cX5_push 2 none) B.pre w (List.mem_cons_of_mem _ h)
  have hown : s.vm.findClass RX5 = some m.cls := findClass_of_methodNamed B.named
  have hlocks := B.notSynchronized
  subst hsz
  have hD := hD0.self (sz := s.heap.size)
  generalize hAe : va_A [(a2, .inr (5, [.ref ba, .int 0])), (ba, .inl (cP, 10, .inr (.inr (.inr (.inr fp))))), (p0, .inr (0, [.ref q0, .ref q1, .ref q2, .ref q3, .ref q4, .ref q5, .int 0, .int 0])), (q5, .inl (cQ, 64, .inl fq)), (b0, .inr (0, [.ref e0, .ref e1, .ref e2, .ref e3, .ref e4, .ref e5, .int 0, .int 0])), (e5, .inl (cC, 64, .inl fc))] s.heap.size = A at hD ⊢
  have hA : ∀ q : Nat, s.heap.size ≤ q → A q := fun q h => by rw [← hAe]; exact Or.inr h
  have hS : va_S A s.heap s.heap [] := va_S.rf
  have hP : va_P (dC, dI) vwCl [(a2, .inr (5, [.ref ba, .int 0])), (ba, .inl (cP, 10, .inr (.inr (.inr (.inr fp))))), (p0, .inr (0, [.ref q0, .ref q1, .ref q2, .ref q3, .ref q4, .ref q5, .int 0, .int 0])), (q5, .inl (cQ, 64, .inl fq)), (b0, .inr (0, [.ref e0, .ref e1, .ref e2, .ref e3, .ref e4, .ref e5, .int 0, .int 0])), (e5, .inl (cC, 64, .inl fc))] s.heap := hP
  have hl := lv_entry ([.ref a2, .ref b0]) (n := 2) (Nat.le_of_ble_eq_true rfl)
  rw [lg_entry_eq]
  generalize (lg_sl ([.ref a2, .ref b0]) ++ List.replicate (2 - (lg_sl ([.ref a2, .ref b0])).length) Slot.unset).toArray = ls at hl ⊢
  have hl : lv_has ls 2 [(0, .ref a2), (1, .ref b0)] := hl
  refine lv_aload_n hx hb dX5_push_0 rfl (lv_at hl 0 rfl) ?_
  refine va_get (D := (dC, dI)) (ci := 5) (v := .int 0) (C := RX5) (T := TX5) (N := 2) hx hb hT iX5 hown hK hP 0 rfl rfl 1 (by decide) (hT _ w184) (fun _ h9 => h9) rfl dX5_push_1 ?_
  refine lv_bipush (v := 10) hx hb dX5_push_4 (by decide) ?_
  refine lv_icmp_ne (tgt := 13) hx hb dX5_push_6 (by decide) (fun _ => ?_) (fun h => absurd h (by decide))
  refine lv_aload_n hx hb dX5_push_13 rfl (lv_at hl 0 rfl) ?_
  refine va_get (D := (dC, dI)) (ci := 5) (v := .ref ba) (C := RX5) (T := TX5) (N := 2) hx hb hT iX5 hown hK hP 0 rfl rfl 0 (by decide) (hT _ w183) (fun _ h9 => h9) rfl dX5_push_14 ?_
  refine lv_aload_n hx hb dX5_push_17 rfl (lv_at hl 0 rfl) ?_
  refine va_get (D := (dC, dI)) (ci := 5) (v := .int 0) (C := RX5) (T := TX5) (N := 2) hx hb hT iX5 hown hK hP 0 rfl rfl 1 (by decide) (hT _ w184) (fun _ h9 => h9) rfl dX5_push_18 ?_
  refine va_aldq hx hb hK hP 1 0 rfl rfl (by unfold vp_in; decide) dX5_push_21 ?_
  refine W.eq (g2 := F0 m 22 ls [.ref p0]) (by show F0 _ _ _ (va_rf (fp 0) :: _) = _; rw [hp0]; rfl) ?_
  refine lv_aload_n hx hb dX5_push_22 rfl (lv_at hl 1 rfl) ?_
  have hPc := hP.sub (ws' := [(p0, .inr (0, [.ref q0, .ref q1, .ref q2, .ref q3, .ref q4, .ref q5, .int 0, .int 0])), (q5, .inl (cQ, 64, .inl fq)), (b0, .inr (0, [.ref e0, .ref e1, .ref e2, .ref e3, .ref e4, .ref e5, .int 0, .int 0])), (e5, .inl (cC, 64, .inl fc))]) [2, 3, 4, 5] rfl
  have hDc := hD.sub (ws' := [(p0, .inr (0, [.ref q0, .ref q1, .ref q2, .ref q3, .ref q4, .ref q5, .int 0, .int 0])), (q5, .inl (cQ, 64, .inl fq)), (b0, .inr (0, [.ref e0, .ref e1, .ref e2, .ref e3, .ref e4, .ref e5, .int 0, .int 0])), (e5, .inl (cC, 64, .inl fc))]) [2, 3, 4, 5] (by decide) rfl
  have hKc := hK.sub (tys' := [(cQ, .int), (cC, .int)]) [1, 2] rfl
  have hFc := va_free (wc := [(p0, .inr (0, [.ref q0, .ref q1, .ref q2, .ref q3, .ref q4, .ref q5, .int 0, .int 0])), (q5, .inl (cQ, 64, .inl fq)), (b0, .inr (0, [.ref e0, .ref e1, .ref e2, .ref e3, .ref e4, .ref e5, .int 0, .int 0])), (e5, .inl (cC, 64, .inl fc))]) hD hS hA [2, 3, 4, 5] rfl
  refine va_callv (va_runV (As := [.ref b0]) (rest := []) ⟨hx, hb, hml, hown, hT⟩ (c_copyFrom l dC dI p0 q0 q1 q2 q3 q4 q5 cQ fq b0 e0 e1 e2 e3 e4 e5 cC fc s.heap.size) (cwV 1 hT (gV w623 w624 w625 w5 w626) rfl rfl rfl (by decide +kernel) ⟨(Nat.le_of_ble_eq_true rfl), (Nat.le_of_ble_eq_true rfl)⟩) ⟨pcW.blind, va_recv hKc hPc (ci := 0) (q0 := 0) rfl rfl, pcW.pre hPc hKc hDc⟩ rfl rfl hl.1 rfl (lv_room (Nat.le_of_ble_eq_true rfl)) dX5_push_23 ⟨(Nat.le_of_ble_eq_true rfl), (Nat.le_of_ble_eq_true rfl)⟩) hS (fun q _ h => hFc q h) hFc (fun u t H1 locs ht hvm hw hB hz1 hk1 hS => ?_)
  obtain ⟨hP1, hK1, hD1⟩ := hB
  rw [ht] at hP1
  have hK1 := va_K.moved hvm.symm hK1
  obtain ⟨hP, hD⟩ := va_join (wr := [(a2, .inr (5, [.ref ba, .int 0])), (ba, .inl (cP, 10, .inr (.inr (.inr (.inr fp)))))]) (w1 := [(b0, .inr (0, [.ref e0, .ref e1, .ref e2, .ref e3, .ref e4, .ref e5, .int 0, .int 0]))]) hP hD [2, 3, 4, 5] [0, 1] rfl rfl (by decide) (by decide) hk1 hFc hP1 hD1
  have hK := hK.app hK1
  generalize H1 = H at hP hS ⊢
  have hP : va_P (dC, dI) vwCl [(a2, .inr (5, [.ref ba, .int 0])), (ba, .inl (cP, 10, .inr (.inr (.inr (.inr fp))))), (b0, .inr (0, [.ref e0, .ref e1, .ref e2, .ref e3, .ref e4, .ref e5, .int 0, .int 0]))] H := hP
  have hD : va_D A [(a2, .inr (5, [.ref ba, .int 0])), (ba, .inl (cP, 10, .inr (.inr (.inr (.inr fp))))), (b0, .inr (0, [.ref e0, .ref e1, .ref e2, .ref e3, .ref e4, .ref e5, .int 0, .int 0]))] := hD
  have hK : va_K (dC, dI) vwCl [(cP, .object RX0), (cQ, .int), (cC, .int)] s := hK
  refine W.widen (k := 0) (n := 0) (Nat.le_of_ble_eq_true rfl) (Nat.le_of_ble_eq_true rfl) ?_
  refine lv_aload_n hx hb dX5_push_26 rfl (lv_at hl 0 rfl) ?_
  refine lv_dup hx hb dX5_push_27 rfl ?_
  refine va_get (D := (dC, dI)) (ci := 5) (v := .int 0) (C := RX5) (T := TX5) (N := 2) hx hb hT iX5 hown hK hP 0 rfl rfl 1 (by decide) (hT _ w184) (fun _ h9 => h9) rfl dX5_push_28 ?_
  refine lv_iconst (v := 1) hx hb dX5_push_31 (by decide) ?_
  refine lv_iadd hx hb dX5_push_32 ?_
  refine lv_topi (fun z_1 ez_1 => ?_)
  obtain rfl : z_1 = 1 := ez_1.trans (by decide)
  refine va_put (D := (dC, dI)) (ci := 5) (v := .int 1) (ty := .int) (C := RX5) (T := TX5) (N := 2) hx hb hT iX5 tyX5 tyX5_ok nmX5 hown hK hP hD hS 0 rfl rfl 1 (by decide) (hT _ w184) (fun _ h9 => h9) rfl (by decide +kernel) rfl rfl (Nat.le_of_ble_eq_true rfl) dX5_push_33 (fun H locs hP hD hS => ?_)
  have hP : va_P (dC, dI) vwCl [(a2, .inr (5, [.ref ba, .int 1])), (ba, .inl (cP, 10, .inr (.inr (.inr (.inr fp))))), (b0, .inr (0, [.ref e0, .ref e1, .ref e2, .ref e3, .ref e4, .ref e5, .int 0, .int 0]))] H := hP
  have hD : va_D A [(a2, .inr (5, [.ref ba, .int 1])), (ba, .inl (cP, 10, .inr (.inr (.inr (.inr fp))))), (b0, .inr (0, [.ref e0, .ref e1, .ref e2, .ref e3, .ref e4, .ref e5, .int 0, .int 0]))] := hD
  refine W.widen (k := 0) (n := 0) (Nat.le_of_ble_eq_true rfl) (Nat.le_of_ble_eq_true rfl) ?_
  have hP9 := hP.sub (ws' := [(b0, .inr (0, [.ref e0, .ref e1, .ref e2, .ref e3, .ref e4, .ref e5, .int 0, .int 0]))]) [2] rfl
  have hD9 := hD.sub (ws' := [(b0, .inr (0, [.ref e0, .ref e1, .ref e2, .ref e3, .ref e4, .ref e5, .int 0, .int 0]))]) [2] (by decide) rfl
  have hK9 := hK.sub (tys' := []) [] rfl
  exact W.vret hx hb hr (fun t ht hW => ⟨⟨(), rfl, trivial, by rw [ht]; exact hP9, va_K.moved hW.alike hK9, hD9⟩, hS.F ht⟩) hS.2.2 dX5_push_36

set_option maxHeartbeats 4000000 in
set_option maxRecDepth 100000 in
theorem c_remember (l : Launch) (dC : Nat → ClassId) (dI : Nat → Nat → Nat) (h0 : Nat) (a0 : Nat) (a1 : Nat) (a2 : Nat) (a3 : Nat) (a4 : Nat) (a5 : Nat) (a6 : Nat) (a7 : Nat) (a8 : Nat) (a9 : Nat) (n0 : Nat) (b0 : Nat) (ba : Nat) (cP : ClassId) (fp : Nat → Option Nat) (p0 : Nat) (q0 : Nat) (q1 : Nat) (q2 : Nat) (q3 : Nat) (q4 : Nat) (q5 : Nat) (cQ : ClassId) (fq : Nat → Int32) (e0 : Nat) (e1 : Nat) (e2 : Nat) (e3 : Nat) (e4 : Nat) (e5 : Nat) (cC : ClassId) (fc : Nat → Int32) (sz : Nat) (hp0 : fp 0 = some p0) : Met l yX11_rememberAct (wT yX11_rememberAct cX11_rememberAct 1 none) ({ frames := 3, cells := 0, slots := 0, locals := 83 }) (pcW dC dI [.ref h0] sz [(h0, .inr (11, [.ref a0, .ref a1, .ref a2, .ref a3, .ref a4, .ref a5, .ref a6, .ref a7, .ref a8, .ref a9, .ref n0, .ref b0, .int (-1)])), (a2, .inr (5, [.ref ba, .int 0])), (ba, .inl (cP, 10, .inr (.inr (.inr (.inr fp))))), (p0, .inr (0, [.ref q0, .ref q1, .ref q2, .ref q3, .ref q4, .ref q5, .int 0, .int 0])), (q5, .inl (cQ, 64, .inl fq)), (b0, .inr (0, [.ref e0, .ref e1, .ref e2, .ref e3, .ref e4, .ref e5, .int 0, .int 0])), (e5, .inl (cC, 64, .inl fc))] [(cP, .object RX0), (cQ, .int), (cC, .int)]) (va_Qv (fun _ : Unit => True) (fun _ t => pB dC dI (va_A [(h0, .inr (11, [.ref a0, .ref a1, .ref a2, .ref a3, .ref a4, .ref a5, .ref a6, .ref a7, .ref a8, .ref a9, .ref n0, .ref b0, .int (-1)])), (a2, .inr (5, [.ref ba, .int 0])), (ba, .inl (cP, 10, .inr (.inr (.inr (.inr fp))))), (p0, .inr (0, [.ref q0, .ref q1, .ref q2, .ref q3, .ref q4, .ref q5, .int 0, .int 0])), (q5, .inl (cQ, 64, .inl fq)), (b0, .inr (0, [.ref e0, .ref e1, .ref e2, .ref e3, .ref e4, .ref e5, .int 0, .int 0])), (e5, .inl (cC, 64, .inl fc))] sz) [(h0, .inr (11, [.ref a0, .ref a1, .ref a2, .ref a3, .ref a4, .ref a5, .ref a6, .ref a7, .ref a8, .ref a9, .ref n0, .ref b0, .int (-1)])), (b0, .inr (0, [.ref e0, .ref e1, .ref e2, .ref e3, .ref e4, .ref e5, .int 0, .int 0]))] [] t) (va_A [(h0, .inr (11, [.ref a0, .ref a1, .ref a2, .ref a3, .ref a4, .ref a5, .ref a6, .ref a7, .ref a8, .ref a9, .ref n0, .ref b0, .int (-1)])), (a2, .inr (5, [.ref ba, .int 0])), (ba, .inl (cP, 10, .inr (.inr (.inr (.inr fp))))), (p0, .inr (0, [.ref q0, .ref q1, .ref q2, .ref q3, .ref q4, .ref q5, .int 0, .int 0])), (q5, .inl (cQ, 64, .inl fq)), (b0, .inr (0, [.ref e0, .ref e1, .ref e2, .ref e3, .ref e4, .ref e5, .int 0, .int 0])), (e5, .inl (cC, 64, .inl fc))] sz)) 0 0 (va_A [(h0, .inr (11, [.ref a0, .ref a1, .ref a2, .ref a3, .ref a4, .ref a5, .ref a6, .ref a7, .ref a8, .ref a9, .ref n0, .ref b0, .int (-1)])), (a2, .inr (5, [.ref ba, .int 0])), (ba, .inl (cP, 10, .inr (.inr (.inr (.inr fp))))), (p0, .inr (0, [.ref q0, .ref q1, .ref q2, .ref q3, .ref q4, .ref q5, .int 0, .int 0])), (q5, .inl (cQ, 64, .inl fq)), (b0, .inr (0, [.ref e0, .ref e1, .ref e2, .ref e3, .ref e4, .ref e5, .int 0, .int 0])), (e5, .inl (cC, 64, .inl fc))] sz) := by
  refine Met.ofW (cc := cX11_rememberAct) (maxL := 1) (ret := none) (by decide) rfl ?_
  intro p e s m args below meth c s₁ B hml hv
  obtain ⟨rfl, hsz, hP, hK, hD0⟩ := hv
  have hx := B.exec
  have hb := B.bytes
  have hr := B.returns
  have hT : ∀ w ∈ TB, w.before [.ref h0].toArray s = true := fun w h => atoms_spec (ws := wT yX11_rememberAct cX11_rememberAct 1 none) B.pre w (List.mem_cons_of_mem _ h)
  have hown : s.vm.findClass RX11 = some m.cls := findClass_of_methodNamed B.named
  have hlocks := B.notSynchronized
  subst hsz
  have hD := hD0.self (sz := s.heap.size)
  generalize hAe : va_A [(h0, .inr (11, [.ref a0, .ref a1, .ref a2, .ref a3, .ref a4, .ref a5, .ref a6, .ref a7, .ref a8, .ref a9, .ref n0, .ref b0, .int (-1)])), (a2, .inr (5, [.ref ba, .int 0])), (ba, .inl (cP, 10, .inr (.inr (.inr (.inr fp))))), (p0, .inr (0, [.ref q0, .ref q1, .ref q2, .ref q3, .ref q4, .ref q5, .int 0, .int 0])), (q5, .inl (cQ, 64, .inl fq)), (b0, .inr (0, [.ref e0, .ref e1, .ref e2, .ref e3, .ref e4, .ref e5, .int 0, .int 0])), (e5, .inl (cC, 64, .inl fc))] s.heap.size = A at hD ⊢
  have hA : ∀ q : Nat, s.heap.size ≤ q → A q := fun q h => by rw [← hAe]; exact Or.inr h
  have hS : va_S A s.heap s.heap [] := va_S.rf
  have hP : va_P (dC, dI) vwCl [(h0, .inr (11, [.ref a0, .ref a1, .ref a2, .ref a3, .ref a4, .ref a5, .ref a6, .ref a7, .ref a8, .ref a9, .ref n0, .ref b0, .int (-1)])), (a2, .inr (5, [.ref ba, .int 0])), (ba, .inl (cP, 10, .inr (.inr (.inr (.inr fp))))), (p0, .inr (0, [.ref q0, .ref q1, .ref q2, .ref q3, .ref q4, .ref q5, .int 0, .int 0])), (q5, .inl (cQ, 64, .inl fq)), (b0, .inr (0, [.ref e0, .ref e1, .ref e2, .ref e3, .ref e4, .ref e5, .int 0, .int 0])), (e5, .inl (cC, 64, .inl fc))] s.heap := hP
  have hl := lv_entry ([.ref h0]) (n := 1) (Nat.le_of_ble_eq_true rfl)
  rw [lg_entry_eq]
  generalize (lg_sl ([.ref h0]) ++ List.replicate (1 - (lg_sl ([.ref h0])).length) Slot.unset).toArray = ls at hl ⊢
  have hl : lv_has ls 1 [(0, .ref h0)] := hl
  refine lv_aload_n hx hb dX11_rememberAct_0 rfl (lv_at hl 0 rfl) ?_
  refine va_get (D := (dC, dI)) (ci := 11) (v := .ref a2) (C := RX11) (T := TX11) (N := 13) hx hb hT iX11 hown hK hP 0 rfl rfl 2 (by decide) (hT _ w355) (fun _ h9 => h9) rfl dX11_rememberAct_1 ?_
  refine lv_aload_n hx hb dX11_rememberAct_4 rfl (lv_at hl 0 rfl) ?_
  refine va_get (D := (dC, dI)) (ci := 11) (v := .ref b0) (C := RX11) (T := TX11) (N := 13) hx hb hT iX11 hown hK hP 0 rfl rfl 11 (by decide) (hT _ w364) (fun _ h9 => h9) rfl dX11_rememberAct_5 ?_
  have hPc := hP.sub (ws' := [(a2, .inr (5, [.ref ba, .int 0])), (ba, .inl (cP, 10, .inr (.inr (.inr (.inr fp))))), (p0, .inr (0, [.ref q0, .ref q1, .ref q2, .ref q3, .ref q4, .ref q5, .int 0, .int 0])), (q5, .inl (cQ, 64, .inl fq)), (b0, .inr (0, [.ref e0, .ref e1, .ref e2, .ref e3, .ref e4, .ref e5, .int 0, .int 0])), (e5, .inl (cC, 64, .inl fc))]) [1, 2, 3, 4, 5, 6] rfl
  have hDc := hD.sub (ws' := [(a2, .inr (5, [.ref ba, .int 0])), (ba, .inl (cP, 10, .inr (.inr (.inr (.inr fp))))), (p0, .inr (0, [.ref q0, .ref q1, .ref q2, .ref q3, .ref q4, .ref q5, .int 0, .int 0])), (q5, .inl (cQ, 64, .inl fq)), (b0, .inr (0, [.ref e0, .ref e1, .ref e2, .ref e3, .ref e4, .ref e5, .int 0, .int 0])), (e5, .inl (cC, 64, .inl fc))]) [1, 2, 3, 4, 5, 6] (by decide) rfl
  have hKc := hK.sub (tys' := [(cP, .object RX0), (cQ, .int), (cC, .int)]) [0, 1, 2] rfl
  have hFc := va_free (wc := [(a2, .inr (5, [.ref ba, .int 0])), (ba, .inl (cP, 10, .inr (.inr (.inr (.inr fp))))), (p0, .inr (0, [.ref q0, .ref q1, .ref q2, .ref q3, .ref q4, .ref q5, .int 0, .int 0])), (q5, .inl (cQ, 64, .inl fq)), (b0, .inr (0, [.ref e0, .ref e1, .ref e2, .ref e3, .ref e4, .ref e5, .int 0, .int 0])), (e5, .inl (cC, 64, .inl fc))]) hD hS hA [1, 2, 3, 4, 5, 6] rfl
  refine va_callv (va_runV (As := [.ref b0]) (rest := []) ⟨hx, hb, hml, hown, hT⟩ (c_push l dC dI a2 ba cP fp p0 q0 q1 q2 q3 q4 q5 cQ fq b0 e0 e1 e2 e3 e4 e5 cC fc s.heap.size hp0) (cwV 1 hT (gV w615 w616 w617 w7 w618) rfl rfl rfl (by decide +kernel) ⟨(Nat.le_of_ble_eq_true rfl), (Nat.le_of_ble_eq_true rfl)⟩) ⟨pcW.blind, va_recv hKc hPc (ci := 5) (q0 := 0) rfl rfl, pcW.pre hPc hKc hDc⟩ rfl rfl hl.1 rfl (lv_room (Nat.le_of_ble_eq_true rfl)) dX11_rememberAct_8 ⟨(Nat.le_of_ble_eq_true rfl), (Nat.le_of_ble_eq_true rfl)⟩) hS (fun q _ h => hFc q h) hFc (fun u t H1 locs ht hvm hw hB hz1 hk1 hS => ?_)
  obtain ⟨hP1, hK1, hD1⟩ := hB
  rw [ht] at hP1
  have hK1 := va_K.moved hvm.symm hK1
  obtain ⟨hP, hD⟩ := va_join (wr := [(h0, .inr (11, [.ref a0, .ref a1, .ref a2, .ref a3, .ref a4, .ref a5, .ref a6, .ref a7, .ref a8, .ref a9, .ref n0, .ref b0, .int (-1)]))]) (w1 := [(b0, .inr (0, [.ref e0, .ref e1, .ref e2, .ref e3, .ref e4, .ref e5, .int 0, .int 0]))]) hP hD [1, 2, 3, 4, 5, 6] [0] rfl rfl (by decide) (by decide) hk1 hFc hP1 hD1
  have hK := hK.app hK1
  generalize H1 = H at hP hS ⊢
  have hP : va_P (dC, dI) vwCl [(h0, .inr (11, [.ref a0, .ref a1, .ref a2, .ref a3, .ref a4, .ref a5, .ref a6, .ref a7, .ref a8, .ref a9, .ref n0, .ref b0, .int (-1)])), (b0, .inr (0, [.ref e0, .ref e1, .ref e2, .ref e3, .ref e4, .ref e5, .int 0, .int 0]))] H := hP
  have hD : va_D A [(h0, .inr (11, [.ref a0, .ref a1, .ref a2, .ref a3, .ref a4, .ref a5, .ref a6, .ref a7, .ref a8, .ref a9, .ref n0, .ref b0, .int (-1)])), (b0, .inr (0, [.ref e0, .ref e1, .ref e2, .ref e3, .ref e4, .ref e5, .int 0, .int 0]))] := hD
  have hK : va_K (dC, dI) vwCl [(cP, .object RX0), (cQ, .int), (cC, .int)] s := hK
  refine W.widen (k := 0) (n := 0) (Nat.le_of_ble_eq_true rfl) (Nat.le_of_ble_eq_true rfl) ?_
  refine lv_aload_n hx hb dX11_rememberAct_11 rfl (lv_at hl 0 rfl) ?_
  refine lv_iconst (v := (-1)) hx hb dX11_rememberAct_12 (by decide) ?_
  refine va_put (D := (dC, dI)) (ci := 11) (v := .int (-1)) (ty := .int) (C := RX11) (T := TX11) (N := 13) hx hb hT iX11 tyX11 tyX11_ok nmX11 hown hK hP hD hS 0 rfl rfl 12 (by decide) (hT _ w365) (fun _ h9 => h9) rfl (by decide +kernel) rfl rfl (Nat.le_of_ble_eq_true rfl) dX11_rememberAct_13 (fun H locs hP hD hS => ?_)
  have hP : va_P (dC, dI) vwCl [(h0, .inr (11, [.ref a0, .ref a1, .ref a2, .ref a3, .ref a4, .ref a5, .ref a6, .ref a7, .ref a8, .ref a9, .ref n0, .ref b0, .int (-1)])), (b0, .inr (0, [.ref e0, .ref e1, .ref e2, .ref e3, .ref e4, .ref e5, .int 0, .int 0]))] H := hP
  have hD : va_D A [(h0, .inr (11, [.ref a0, .ref a1, .ref a2, .ref a3, .ref a4, .ref a5, .ref a6, .ref a7, .ref a8, .ref a9, .ref n0, .ref b0, .int (-1)])), (b0, .inr (0, [.ref e0, .ref e1, .ref e2, .ref e3, .ref e4, .ref e5, .int 0, .int 0]))] := hD
  refine W.widen (k := 0) (n := 0) (Nat.le_of_ble_eq_true rfl) (Nat.le_of_ble_eq_true rfl) ?_
  have hP9 := hP.sub (ws' := [(h0, .inr (11, [.ref a0, .ref a1, .ref a2, .ref a3, .ref a4, .ref a5, .ref a6, .ref a7, .ref a8, .ref a9, .ref n0, .ref b0, .int (-1)])), (b0, .inr (0, [.ref e0, .ref e1, .ref e2, .ref e3, .ref e4, .ref e5, .int 0, .int 0]))]) [0, 1] rfl
  have hD9 := hD.sub (ws' := [(h0, .inr (11, [.ref a0, .ref a1, .ref a2, .ref a3, .ref a4, .ref a5, .ref a6, .ref a7, .ref a8, .ref a9, .ref n0, .ref b0, .int (-1)])), (b0, .inr (0, [.ref e0, .ref e1, .ref e2, .ref e3, .ref e4, .ref e5, .int 0, .int 0]))]) [0, 1] (by decide) rfl
  have hK9 := hK.sub (tys' := []) [] rfl
  exact W.vret hx hb hr (fun t ht hW => ⟨⟨(), rfl, trivial, by rw [ht]; exact hP9, va_K.moved hW.alike hK9, hD9⟩, hS.F ht⟩) hS.2.2 dX11_rememberAct_16

set_option maxHeartbeats 4000000 in
set_option maxRecDepth 100000 in
theorem c_mode (l : Launch) (dC : Nat → ClassId) (dI : Nat → Nat → Nat) (h0 : Nat) (a0 : Nat) (a1 : Nat) (a2 : Nat) (a3 : Nat) (a4 : Nat) (a5 : Nat) (a6 : Nat) (a7 : Nat) (a8 : Nat) (a9 : Nat) (n0 : Nat) (b0 : Nat) (ba : Nat) (cP : ClassId) (fp : Nat → Option Nat) (p0 : Nat) (q0 : Nat) (q1 : Nat) (q2 : Nat) (q3 : Nat) (q4 : Nat) (q5 : Nat) (cQ : ClassId) (fq : Nat → Int32) (e0 : Nat) (e1 : Nat) (e2 : Nat) (e3 : Nat) (e4 : Nat) (e5 : Nat) (cC : ClassId) (fc : Nat → Int32) (sz : Nat) (k0 : Int32) (hp0 : fp 0 = some p0) : Met l yX11_mode (wT yX11_mode cX11_mode 3 (some .int)) ({ frames := 4, cells := 0, slots := 0, locals := 103 }) (pcW dC dI [.ref h0, .int k0] sz [(h0, .inr (11, [.ref a0, .ref a1, .ref a2, .ref a3, .ref a4, .ref a5, .ref a6, .ref a7, .ref a8, .ref a9, .ref n0, .ref b0, .int (-1)])), (a2, .inr (5, [.ref ba, .int 0])), (ba, .inl (cP, 10, .inr (.inr (.inr (.inr fp))))), (p0, .inr (0, [.ref q0, .ref q1, .ref q2, .ref q3, .ref q4, .ref q5, .int 0, .int 0])), (q5, .inl (cQ, 64, .inl fq)), (b0, .inr (0, [.ref e0, .ref e1, .ref e2, .ref e3, .ref e4, .ref e5, .int 0, .int 0])), (e5, .inl (cC, 64, .inl fc))] [(cP, .object RX0), (cQ, .int), (cC, .int)]) (va_Qi (fun (r : Int32) (_ : Unit) => r = (if 0 ≤ k0 ∧ k0 ≤ 3 then 0 else (-3))) (fun _ _ => True) (va_A [(h0, .inr (11, [.ref a0, .ref a1, .ref a2, .ref a3, .ref a4, .ref a5, .ref a6, .ref a7, .ref a8, .ref a9, .ref n0, .ref b0, .int (-1)])), (a2, .inr (5, [.ref ba, .int 0])), (ba, .inl (cP, 10, .inr (.inr (.inr (.inr fp))))), (p0, .inr (0, [.ref q0, .ref q1, .ref q2, .ref q3, .ref q4, .ref q5, .int 0, .int 0])), (q5, .inl (cQ, 64, .inl fq)), (b0, .inr (0, [.ref e0, .ref e1, .ref e2, .ref e3, .ref e4, .ref e5, .int 0, .int 0])), (e5, .inl (cC, 64, .inl fc))] sz)) 0 0 (va_A [(h0, .inr (11, [.ref a0, .ref a1, .ref a2, .ref a3, .ref a4, .ref a5, .ref a6, .ref a7, .ref a8, .ref a9, .ref n0, .ref b0, .int (-1)])), (a2, .inr (5, [.ref ba, .int 0])), (ba, .inl (cP, 10, .inr (.inr (.inr (.inr fp))))), (p0, .inr (0, [.ref q0, .ref q1, .ref q2, .ref q3, .ref q4, .ref q5, .int 0, .int 0])), (q5, .inl (cQ, 64, .inl fq)), (b0, .inr (0, [.ref e0, .ref e1, .ref e2, .ref e3, .ref e4, .ref e5, .int 0, .int 0])), (e5, .inl (cC, 64, .inl fc))] sz) := by
  refine Met.ofW (cc := cX11_mode) (maxL := 3) (ret := (some .int)) (by decide) rfl ?_
  intro p e s m args below meth c s₁ B hml hv
  obtain ⟨rfl, hsz, hP, hK, hD0⟩ := hv
  have hx := B.exec
  have hb := B.bytes
  have hr := B.returns
  have hT : ∀ w ∈ TB, w.before [.ref h0, .int k0].toArray s = true := fun w h => atoms_spec (ws := wT yX11_mode cX11_mode 3 (some .int)) B.pre w (List.mem_cons_of_mem _ h)
  have hown : s.vm.findClass RX11 = some m.cls := findClass_of_methodNamed B.named
  have hlocks := B.notSynchronized
  subst hsz
  have hD := hD0.self (sz := s.heap.size)
  generalize hAe : va_A [(h0, .inr (11, [.ref a0, .ref a1, .ref a2, .ref a3, .ref a4, .ref a5, .ref a6, .ref a7, .ref a8, .ref a9, .ref n0, .ref b0, .int (-1)])), (a2, .inr (5, [.ref ba, .int 0])), (ba, .inl (cP, 10, .inr (.inr (.inr (.inr fp))))), (p0, .inr (0, [.ref q0, .ref q1, .ref q2, .ref q3, .ref q4, .ref q5, .int 0, .int 0])), (q5, .inl (cQ, 64, .inl fq)), (b0, .inr (0, [.ref e0, .ref e1, .ref e2, .ref e3, .ref e4, .ref e5, .int 0, .int 0])), (e5, .inl (cC, 64, .inl fc))] s.heap.size = A at hD ⊢
  have hA : ∀ q : Nat, s.heap.size ≤ q → A q := fun q h => by rw [← hAe]; exact Or.inr h
  have hS : va_S A s.heap s.heap [] := va_S.rf
  have hP : va_P (dC, dI) vwCl [(h0, .inr (11, [.ref a0, .ref a1, .ref a2, .ref a3, .ref a4, .ref a5, .ref a6, .ref a7, .ref a8, .ref a9, .ref n0, .ref b0, .int (-1)])), (a2, .inr (5, [.ref ba, .int 0])), (ba, .inl (cP, 10, .inr (.inr (.inr (.inr fp))))), (p0, .inr (0, [.ref q0, .ref q1, .ref q2, .ref q3, .ref q4, .ref q5, .int 0, .int 0])), (q5, .inl (cQ, 64, .inl fq)), (b0, .inr (0, [.ref e0, .ref e1, .ref e2, .ref e3, .ref e4, .ref e5, .int 0, .int 0])), (e5, .inl (cC, 64, .inl fc))] s.heap := hP
  have hl := lv_entry ([.ref h0, .int k0]) (n := 3) (Nat.le_of_ble_eq_true rfl)
  rw [lg_entry_eq]
  generalize (lg_sl ([.ref h0, .int k0]) ++ List.replicate (3 - (lg_sl ([.ref h0, .int k0])).length) Slot.unset).toArray = ls at hl ⊢
  have hl : lv_has ls 3 [(0, .ref h0), (1, .int k0)] := hl
  refine lv_iload_n hx hb dX11_mode_0 rfl (lv_at hl 1 rfl) ?_
  refine lv_if_lt (tgt := 9) hx hb dX11_mode_1 (by decide) (fun c_1 => ?_) (fun c_1 => ?_)
  · refine lv_bipush (v := (-3)) hx hb dX11_mode_9 (by decide) ?_
    refine W.widen (k := 0) (n := 0) (Nat.le_of_ble_eq_true rfl) (Nat.le_of_ble_eq_true rfl) ?_
    exact W.iret (v := (-3)) hx hb hr (fun t ht hW => ⟨⟨(-3), (), rfl, (md_a c_1), trivial⟩, hS.F ht⟩) hS.2.2 dX11_mode_11
  · refine lv_iload_n hx hb dX11_mode_4 rfl (lv_at hl 1 rfl) ?_
    refine lv_iconst (v := 3) hx hb dX11_mode_5 (by decide) ?_
    refine lv_icmp_le (tgt := 12) hx hb dX11_mode_6 (by decide) (fun c_6 => ?_) (fun c_6 => ?_)
    · refine lv_aload_n hx hb dX11_mode_12 rfl (lv_at hl 0 rfl) ?_
      have hPc := hP.sub (ws' := [(h0, .inr (11, [.ref a0, .ref a1, .ref a2, .ref a3, .ref a4, .ref a5, .ref a6, .ref a7, .ref a8, .ref a9, .ref n0, .ref b0, .int (-1)])), (a2, .inr (5, [.ref ba, .int 0])), (ba, .inl (cP, 10, .inr (.inr (.inr (.inr fp))))), (p0, .inr (0, [.ref q0, .ref q1, .ref q2, .ref q3, .ref q4, .ref q5, .int 0, .int 0])), (q5, .inl (cQ, 64, .inl fq)), (b0, .inr (0, [.ref e0, .ref e1, .ref e2, .ref e3, .ref e4, .ref e5, .int 0, .int 0])), (e5, .inl (cC, 64, .inl fc))]) [0, 1, 2, 3, 4, 5, 6] rfl
      have hDc := hD.sub (ws' := [(h0, .inr (11, [.ref a0, .ref a1, .ref a2, .ref a3, .ref a4, .ref a5, .ref a6, .ref a7, .ref a8, .ref a9, .ref n0, .ref b0, .int (-1)])), (a2, .inr (5, [.ref ba, .int 0])), (ba, .inl (cP, 10, .inr (.inr (.inr (.inr fp))))), (p0, .inr (0, [.ref q0, .ref q1, .ref q2, .ref q3, .ref q4, .ref q5, .int 0, .int 0])), (q5, .inl (cQ, 64, .inl fq)), (b0, .inr (0, [.ref e0, .ref e1, .ref e2, .ref e3, .ref e4, .ref e5, .int 0, .int 0])), (e5, .inl (cC, 64, .inl fc))]) [0, 1, 2, 3, 4, 5, 6] (by decide) rfl
      have hKc := hK.sub (tys' := [(cP, .object RX0), (cQ, .int), (cC, .int)]) [0, 1, 2] rfl
      have hFc := va_free (wc := [(h0, .inr (11, [.ref a0, .ref a1, .ref a2, .ref a3, .ref a4, .ref a5, .ref a6, .ref a7, .ref a8, .ref a9, .ref n0, .ref b0, .int (-1)])), (a2, .inr (5, [.ref ba, .int 0])), (ba, .inl (cP, 10, .inr (.inr (.inr (.inr fp))))), (p0, .inr (0, [.ref q0, .ref q1, .ref q2, .ref q3, .ref q4, .ref q5, .int 0, .int 0])), (q5, .inl (cQ, 64, .inl fq)), (b0, .inr (0, [.ref e0, .ref e1, .ref e2, .ref e3, .ref e4, .ref e5, .int 0, .int 0])), (e5, .inl (cC, 64, .inl fc))]) hD hS hA [0, 1, 2, 3, 4, 5, 6] rfl
      refine va_callv (va_runV (As := []) (rest := []) ⟨hx, hb, hml, hown, hT⟩ (c_remember l dC dI h0 a0 a1 a2 a3 a4 a5 a6 a7 a8 a9 n0 b0 ba cP fp p0 q0 q1 q2 q3 q4 q5 cQ fq e0 e1 e2 e3 e4 e5 cC fc s.heap.size hp0) (cwV 0 hT (gV w611 w613 ws25 w1 w614) rfl rfl rfl (by decide +kernel) ⟨(Nat.le_of_ble_eq_true rfl), (Nat.le_of_ble_eq_true rfl)⟩) ⟨pcW.blind, va_recv hKc hPc (ci := 11) (q0 := 0) rfl rfl, pcW.pre hPc hKc hDc⟩ rfl rfl hl.1 rfl (lv_room (Nat.le_of_ble_eq_true rfl)) dX11_mode_13 ⟨(Nat.le_of_ble_eq_true rfl), (Nat.le_of_ble_eq_true rfl)⟩) hS (fun q _ h => hFc q h) hFc (fun u t H1 locs ht hvm hw hB hz1 hk1 hS => ?_)
      obtain ⟨hP1, hK1, hD1⟩ := hB
      rw [ht] at hP1
      have hK1 := va_K.moved hvm.symm hK1
      obtain ⟨hP, hD⟩ := va_join (wr := []) (w1 := [(h0, .inr (11, [.ref a0, .ref a1, .ref a2, .ref a3, .ref a4, .ref a5, .ref a6, .ref a7, .ref a8, .ref a9, .ref n0, .ref b0, .int (-1)])), (b0, .inr (0, [.ref e0, .ref e1, .ref e2, .ref e3, .ref e4, .ref e5, .int 0, .int 0]))]) hP hD [0, 1, 2, 3, 4, 5, 6] [] rfl rfl (by decide) (by decide) hk1 hFc hP1 hD1
      have hK := hK.app hK1
      generalize H1 = H at hP hS ⊢
      have hP : va_P (dC, dI) vwCl [(h0, .inr (11, [.ref a0, .ref a1, .ref a2, .ref a3, .ref a4, .ref a5, .ref a6, .ref a7, .ref a8, .ref a9, .ref n0, .ref b0, .int (-1)])), (b0, .inr (0, [.ref e0, .ref e1, .ref e2, .ref e3, .ref e4, .ref e5, .int 0, .int 0]))] H := hP
      have hD : va_D A [(h0, .inr (11, [.ref a0, .ref a1, .ref a2, .ref a3, .ref a4, .ref a5, .ref a6, .ref a7, .ref a8, .ref a9, .ref n0, .ref b0, .int (-1)])), (b0, .inr (0, [.ref e0, .ref e1, .ref e2, .ref e3, .ref e4, .ref e5, .int 0, .int 0]))] := hD
      have hK : va_K (dC, dI) vwCl [(cP, .object RX0), (cQ, .int), (cC, .int)] s := hK
      refine W.widen (k := 0) (n := 0) (Nat.le_of_ble_eq_true rfl) (Nat.le_of_ble_eq_true rfl) ?_
      refine lv_aload_n hx hb dX11_mode_16 rfl (lv_at hl 0 rfl) ?_
      refine va_get (D := (dC, dI)) (ci := 11) (v := .ref b0) (C := RX11) (T := TX11) (N := 13) hx hb hT iX11 hown hK hP 0 rfl rfl 11 (by decide) (hT _ w364) (fun _ h9 => h9) rfl dX11_mode_17 ?_
      refine va_get (D := (dC, dI)) (ci := 0) (v := .int 0) (C := RX0) (T := TX0) (N := 8) hx hb hT iX0 hown hK hP 1 rfl rfl 7 (by decide) (hT _ w118) (fun _ h9 => h9) rfl dX11_mode_20 ?_
      refine lv_istore_n (lv' := [(2, .int 0), (0, .ref h0), (1, .int k0)]) hx hb dX11_mode_23 rfl hl (by decide) rfl (fun ls hl => ?_)
      refine lv_aload_n hx hb dX11_mode_24 rfl (lv_at hl 1 rfl) ?_
      refine va_get (D := (dC, dI)) (ci := 11) (v := .ref b0) (C := RX11) (T := TX11) (N := 13) hx hb hT iX11 hown hK hP 0 rfl rfl 11 (by decide) (hT _ w364) (fun _ h9 => h9) rfl dX11_mode_25 ?_
      refine lv_iload_n hx hb dX11_mode_28 rfl (lv_at hl 2 rfl) ?_
      refine va_put (D := (dC, dI)) (ci := 0) (v := .int k0) (ty := .int) (C := RX0) (T := TX0) (N := 8) hx hb hT iX0 tyX0 tyX0_ok nmX0 hown hK hP hD hS 1 rfl rfl 7 (by decide) (hT _ w118) (fun _ h9 => h9) rfl (by decide +kernel) rfl rfl (Nat.le_of_ble_eq_true rfl) dX11_mode_29 (fun H locs hP hD hS => ?_)
      have hP : va_P (dC, dI) vwCl [(h0, .inr (11, [.ref a0, .ref a1, .ref a2, .ref a3, .ref a4, .ref a5, .ref a6, .ref a7, .ref a8, .ref a9, .ref n0, .ref b0, .int (-1)])), (b0, .inr (0, [.ref e0, .ref e1, .ref e2, .ref e3, .ref e4, .ref e5, .int 0, .int k0]))] H := hP
      have hD : va_D A [(h0, .inr (11, [.ref a0, .ref a1, .ref a2, .ref a3, .ref a4, .ref a5, .ref a6, .ref a7, .ref a8, .ref a9, .ref n0, .ref b0, .int (-1)])), (b0, .inr (0, [.ref e0, .ref e1, .ref e2, .ref e3, .ref e4, .ref e5, .int 0, .int k0]))] := hD
      refine lv_iload_n hx hb dX11_mode_32 rfl (lv_at hl 0 rfl) ?_
      refine W.widen (k := 0) (n := 0) (Nat.le_of_ble_eq_true rfl) (Nat.le_of_ble_eq_true rfl) ?_
      exact W.iret (v := 0) hx hb hr (fun t ht hW => ⟨⟨0, (), rfl, (md_c c_1 c_6), trivial⟩, hS.F ht⟩) hS.2.2 dX11_mode_33
    · refine lv_bipush (v := (-3)) hx hb dX11_mode_9 (by decide) ?_
      refine W.widen (k := 0) (n := 0) (Nat.le_of_ble_eq_true rfl) (Nat.le_of_ble_eq_true rfl) ?_
      exact W.iret (v := (-3)) hx hb hr (fun t ht hW => ⟨⟨(-3), (), rfl, (md_b c_6), trivial⟩, hS.F ht⟩) hS.2.2 dX11_mode_11

set_option maxHeartbeats 4000000 in
set_option maxRecDepth 100000 in
theorem m_remembers (l : Launch) (dC : Nat → ClassId) (dI : Nat → Nat → Nat) (m0 : Nat) (g0 : Nat) (g1 : Nat) (g2 : Nat) (g3 : Nat) (g4 : Nat) (g9 : Nat) (g17 : Nat) (g18 : Nat) (g20 : Nat) (g21 : Nat) (g22 : Nat) (g23 : Nat) (g24 : Nat) (g25 : Nat) (g26 : Nat) (g27 : Nat) (g28 : Nat) (g29 : Nat) (g30 : Nat) (cS : ClassId) (f : Nat → Int32) (cT : ClassId) (ft : Nat → Int32) (sz : Nat) : Met l yX12_remembers (wT yX12_remembers cX12_remembers 2 none) ({ frames := 0, cells := 0, slots := 0, locals := 0 }) (pcW dC dI [.ref m0] sz [(m0, .inr (12, [.ref g0, .ref g1, .ref g2, .ref g3, .ref g4, .int 0, .int 0, .int 0, .int 0, .ref g9, .int 0, .int 0, .int 0, .int 0, .int (-1), .int 0, .int 0, .ref g17, .ref g18, .int 0, .ref g20, .ref g21, .ref g22, .ref g23, .ref g24, .ref g25, .ref g26, .ref g27, .ref g28, .ref g29, .ref g30, .int 0])), (g0, .inl (cS, 266, .inl f)), (g2, .inl (cT, 2660, .inl ft))] [(cS, .int), (cT, .int)]) (va_Qv (fun _ : Unit => True) (fun _ t => pB dC dI (va_A [(m0, .inr (12, [.ref g0, .ref g1, .ref g2, .ref g3, .ref g4, .int 0, .int 0, .int 0, .int 0, .ref g9, .int 0, .int 0, .int 0, .int 0, .int (-1), .int 0, .int 0, .ref g17, .ref g18, .int 0, .ref g20, .ref g21, .ref g22, .ref g23, .ref g24, .ref g25, .ref g26, .ref g27, .ref g28, .ref g29, .ref g30, .int 0])), (g0, .inl (cS, 266, .inl f)), (g2, .inl (cT, 2660, .inl ft))] sz) [(m0, .inr (12, [.ref g0, .ref g1, .ref g2, .ref g3, .ref g4, .int 0, .int 0, .int 1, .int 0, .ref g9, .int 0, .int 0, .int 0, .int 0, .int (-1), .int 0, .int 0, .ref g17, .ref g18, .int 0, .ref g20, .ref g21, .ref g22, .ref g23, .ref g24, .ref g25, .ref g26, .ref g27, .ref g28, .ref g29, .ref g30, .int 0])), (g0, .inl (cS, 266, .inl f))] [(cS, .int)] t) (va_A [(m0, .inr (12, [.ref g0, .ref g1, .ref g2, .ref g3, .ref g4, .int 0, .int 0, .int 0, .int 0, .ref g9, .int 0, .int 0, .int 0, .int 0, .int (-1), .int 0, .int 0, .ref g17, .ref g18, .int 0, .ref g20, .ref g21, .ref g22, .ref g23, .ref g24, .ref g25, .ref g26, .ref g27, .ref g28, .ref g29, .ref g30, .int 0])), (g0, .inl (cS, 266, .inl f)), (g2, .inl (cT, 2660, .inl ft))] sz)) 0 0 (va_A [(m0, .inr (12, [.ref g0, .ref g1, .ref g2, .ref g3, .ref g4, .int 0, .int 0, .int 0, .int 0, .ref g9, .int 0, .int 0, .int 0, .int 0, .int (-1), .int 0, .int 0, .ref g17, .ref g18, .int 0, .ref g20, .ref g21, .ref g22, .ref g23, .ref g24, .ref g25, .ref g26, .ref g27, .ref g28, .ref g29, .ref g30, .int 0])), (g0, .inl (cS, 266, .inl f)), (g2, .inl (cT, 2660, .inl ft))] sz) := by
  refine Met.ofW (cc := cX12_remembers) (maxL := 2) (ret := none) (by decide) rfl ?_
  intro p e s m args below meth c s₁ B hml hv
  obtain ⟨rfl, hsz, hP, hK, hD0⟩ := hv
  have hx := B.exec
  have hb := B.bytes
  have hr := B.returns
  have hT : ∀ w ∈ TB, w.before [.ref m0].toArray s = true := fun w h => atoms_spec (ws := wT yX12_remembers cX12_remembers 2 none) B.pre w (List.mem_cons_of_mem _ h)
  have hown : s.vm.findClass RX12 = some m.cls := findClass_of_methodNamed B.named
  have hlocks := B.notSynchronized
  subst hsz
  have hD := hD0.self (sz := s.heap.size)
  generalize hAe : va_A [(m0, .inr (12, [.ref g0, .ref g1, .ref g2, .ref g3, .ref g4, .int 0, .int 0, .int 0, .int 0, .ref g9, .int 0, .int 0, .int 0, .int 0, .int (-1), .int 0, .int 0, .ref g17, .ref g18, .int 0, .ref g20, .ref g21, .ref g22, .ref g23, .ref g24, .ref g25, .ref g26, .ref g27, .ref g28, .ref g29, .ref g30, .int 0])), (g0, .inl (cS, 266, .inl f)), (g2, .inl (cT, 2660, .inl ft))] s.heap.size = A at hD ⊢
  have hA : ∀ q : Nat, s.heap.size ≤ q → A q := fun q h => by rw [← hAe]; exact Or.inr h
  have hS : va_S A s.heap s.heap [] := va_S.rf
  have hP : va_P (dC, dI) vwCl [(m0, .inr (12, [.ref g0, .ref g1, .ref g2, .ref g3, .ref g4, .int 0, .int 0, .int 0, .int 0, .ref g9, .int 0, .int 0, .int 0, .int 0, .int (-1), .int 0, .int 0, .ref g17, .ref g18, .int 0, .ref g20, .ref g21, .ref g22, .ref g23, .ref g24, .ref g25, .ref g26, .ref g27, .ref g28, .ref g29, .ref g30, .int 0])), (g0, .inl (cS, 266, .inl f)), (g2, .inl (cT, 2660, .inl ft))] s.heap := hP
  have hl := lv_entry ([.ref m0]) (n := 2) (Nat.le_of_ble_eq_true rfl)
  rw [lg_entry_eq]
  generalize (lg_sl ([.ref m0]) ++ List.replicate (2 - (lg_sl ([.ref m0])).length) Slot.unset).toArray = ls at hl ⊢
  have hl : lv_has ls 2 [(0, .ref m0)] := hl
  refine lv_aload_n hx hb dX12_remembers_0 rfl (lv_at hl 0 rfl) ?_
  refine va_get (D := (dC, dI)) (ci := 12) (v := .int 0) (C := RX12) (T := TX12) (N := 32) hx hb hT iX12 hown hK hP 0 rfl rfl 7 (by decide) (hT _ w1089) (fun _ h9 => h9) rfl dX12_remembers_1 ?_
  refine lv_bipush (v := 10) hx hb dX12_remembers_4 (by decide) ?_
  refine lv_icmp_ne (tgt := 50) hx hb dX12_remembers_6 (by decide) (fun _ => ?_) (fun h => absurd h (by decide))
  refine lv_iconst (v := 0) hx hb dX12_remembers_50 (by decide) ?_
  refine lv_istore_n (lv' := [(1, .int 0), (0, .ref m0)]) hx hb dX12_remembers_51 rfl hl (by decide) rfl (fun ls hl => ?_)
  have loop : ∀ (n i : Nat), i + n = 266 → ∀ (f_g2 : Nat → Int32) (H : Heap) (locs : List Loc), va_P (dC, dI) vwCl [(m0, .inr (12, [.ref g0, .ref g1, .ref g2, .ref g3, .ref g4, .int 0, .int 0, .int 0, .int 0, .ref g9, .int 0, .int 0, .int 0, .int 0, .int (-1), .int 0, .int 0, .ref g17, .ref g18, .int 0, .ref g20, .ref g21, .ref g22, .ref g23, .ref g24, .ref g25, .ref g26, .ref g27, .ref g28, .ref g29, .ref g30, .int 0])), (g0, .inl (cS, 266, .inl f)), (g2, .inl (cT, 2660, .inl f_g2))] H → va_D A [(m0, .inr (12, [.ref g0, .ref g1, .ref g2, .ref g3, .ref g4, .int 0, .int 0, .int 0, .int 0, .ref g9, .int 0, .int 0, .int 0, .int 0, .int (-1), .int 0, .int 0, .ref g17, .ref g18, .int 0, .ref g20, .ref g21, .ref g22, .ref g23, .ref g24, .ref g25, .ref g26, .ref g27, .ref g28, .ref g29, .ref g30, .int 0])), (g0, .inl (cS, 266, .inl f)), (g2, .inl (cT, 2660, .inl f_g2))] → va_S A s.heap H locs → ∀ ls : Array Slot, lv_has ls 2 [(1, .int (nI i)), (0, .ref m0)] → W p l e (headSpec (wT yX12_remembers cX12_remembers 2 none) { frames := 0, cells := 0, slots := 0, locals := 0 }).room s m [.ref m0].toArray below meth c H locs 0 0 (MQ below (va_Qv (fun _ : Unit => True) (fun _ t => pB dC dI A [(m0, .inr (12, [.ref g0, .ref g1, .ref g2, .ref g3, .ref g4, .int 0, .int 0, .int 1, .int 0, .ref g9, .int 0, .int 0, .int 0, .int 0, .int (-1), .int 0, .int 0, .ref g17, .ref g18, .int 0, .ref g20, .ref g21, .ref g22, .ref g23, .ref g24, .ref g25, .ref g26, .ref g27, .ref g28, .ref g29, .ref g30, .int 0])), (g0, .inl (cS, 266, .inl f))] [(cS, .int)] t) A) [.ref m0].toArray s 0 0 A) (F0 m 52 ls []) := by
    intro n
    induction n with
    | zero =>
      intro i hi f_g2 H locs hP hD hS ls hl
      obtain rfl : i = 266 := by omega
      refine lv_iload_n hx hb dX12_remembers_52 rfl (lv_at hl 0 rfl) ?_
      refine lv_sipush (v := 266) hx hb dX12_remembers_53 (by decide) ?_
      refine lv_icmp_ge (tgt := 86) hx hb dX12_remembers_56 (by decide) (fun _ => ?_) (fun h => absurd (by decide) h)
      refine lv_aload_n hx hb dX12_remembers_86 rfl (lv_at hl 1 rfl) ?_
      refine lv_dup hx hb dX12_remembers_87 rfl ?_
      refine va_get (D := (dC, dI)) (ci := 12) (v := .int 0) (C := RX12) (T := TX12) (N := 32) hx hb hT iX12 hown hK hP 0 rfl rfl 7 (by decide) (hT _ w1089) (fun _ h9 => h9) rfl dX12_remembers_88 ?_
      refine lv_iconst (v := 1) hx hb dX12_remembers_91 (by decide) ?_
      refine lv_iadd hx hb dX12_remembers_92 ?_
      refine lv_topi (fun z_1 ez_1 => ?_)
      obtain rfl : z_1 = 1 := ez_1.trans (by decide)
      refine va_put (D := (dC, dI)) (ci := 12) (v := .int 1) (ty := .int) (C := RX12) (T := TX12) (N := 32) hx hb hT iX12 tyX12 tyX12_ok nmX12 hown hK hP hD hS 0 rfl rfl 7 (by decide) (hT _ w1089) (fun _ h9 => h9) rfl (by decide +kernel) rfl rfl (Nat.le_of_ble_eq_true rfl) dX12_remembers_93 (fun H locs hP hD hS => ?_)
      have hP : va_P (dC, dI) vwCl [(m0, .inr (12, [.ref g0, .ref g1, .ref g2, .ref g3, .ref g4, .int 0, .int 0, .int 1, .int 0, .ref g9, .int 0, .int 0, .int 0, .int 0, .int (-1), .int 0, .int 0, .ref g17, .ref g18, .int 0, .ref g20, .ref g21, .ref g22, .ref g23, .ref g24, .ref g25, .ref g26, .ref g27, .ref g28, .ref g29, .ref g30, .int 0])), (g0, .inl (cS, 266, .inl f)), (g2, .inl (cT, 2660, .inl f_g2))] H := hP
      have hD : va_D A [(m0, .inr (12, [.ref g0, .ref g1, .ref g2, .ref g3, .ref g4, .int 0, .int 0, .int 1, .int 0, .ref g9, .int 0, .int 0, .int 0, .int 0, .int (-1), .int 0, .int 0, .ref g17, .ref g18, .int 0, .ref g20, .ref g21, .ref g22, .ref g23, .ref g24, .ref g25, .ref g26, .ref g27, .ref g28, .ref g29, .ref g30, .int 0])), (g0, .inl (cS, 266, .inl f)), (g2, .inl (cT, 2660, .inl f_g2))] := hD
      refine W.widen (k := 0) (n := 0) (Nat.le_of_ble_eq_true rfl) (Nat.le_of_ble_eq_true rfl) ?_
      have hP9 := hP.sub (ws' := [(m0, .inr (12, [.ref g0, .ref g1, .ref g2, .ref g3, .ref g4, .int 0, .int 0, .int 1, .int 0, .ref g9, .int 0, .int 0, .int 0, .int 0, .int (-1), .int 0, .int 0, .ref g17, .ref g18, .int 0, .ref g20, .ref g21, .ref g22, .ref g23, .ref g24, .ref g25, .ref g26, .ref g27, .ref g28, .ref g29, .ref g30, .int 0])), (g0, .inl (cS, 266, .inl f))]) [0, 1] rfl
      have hD9 := hD.sub (ws' := [(m0, .inr (12, [.ref g0, .ref g1, .ref g2, .ref g3, .ref g4, .int 0, .int 0, .int 1, .int 0, .ref g9, .int 0, .int 0, .int 0, .int 0, .int (-1), .int 0, .int 0, .ref g17, .ref g18, .int 0, .ref g20, .ref g21, .ref g22, .ref g23, .ref g24, .ref g25, .ref g26, .ref g27, .ref g28, .ref g29, .ref g30, .int 0])), (g0, .inl (cS, 266, .inl f))]) [0, 1] (by decide) rfl
      have hK9 := hK.sub (tys' := [(cS, .int)]) [0] rfl
      exact W.vret hx hb hr (fun t ht hW => ⟨⟨(), rfl, trivial, by rw [ht]; exact hP9, va_K.moved hW.alike hK9, hD9⟩, hS.F ht⟩) hS.2.2 dX12_remembers_96
    | succ n ih =>
      intro i hi f_g2 H locs hP hD hS ls hl
      have hlt : i < 266 := by omega
      refine lv_iload_n hx hb dX12_remembers_52 rfl (lv_at hl 0 rfl) ?_
      refine lv_sipush (v := 266) hx hb dX12_remembers_53 (by decide) ?_
      refine lv_icmp_ge (tgt := 86) hx hb dX12_remembers_56 (by decide) (fun h => absurd h (nI_ge (a := i) (b := 266) hlt (by decide))) (fun _ => ?_)
      refine lv_aload_n hx hb dX12_remembers_59 rfl (lv_at hl 1 rfl) ?_
      refine va_get (D := (dC, dI)) (ci := 12) (v := .ref g2) (C := RX12) (T := TX12) (N := 32) hx hb hT iX12 hown hK hP 0 rfl rfl 2 (by decide) (hT _ w1084) (fun _ h9 => h9) rfl dX12_remembers_60 ?_
      refine lv_sipush (v := 266) hx hb dX12_remembers_63 (by decide) ?_
      refine lv_aload_n hx hb dX12_remembers_66 rfl (lv_at hl 1 rfl) ?_
      refine va_get (D := (dC, dI)) (ci := 12) (v := .int 0) (C := RX12) (T := TX12) (N := 32) hx hb hT iX12 hown hK hP 0 rfl rfl 7 (by decide) (hT _ w1089) (fun _ h9 => h9) rfl dX12_remembers_67 ?_
      refine lv_imul hx hb dX12_remembers_70 ?_
      refine lv_topi (fun z_2 ez_2 => ?_)
      obtain rfl : z_2 = 0 := ez_2.trans (by decide)
      refine lv_iload_n hx hb dX12_remembers_71 rfl (lv_at hl 0 rfl) ?_
      refine lv_iadd hx hb dX12_remembers_72 ?_
      refine lv_topi (fun z_3 ez_3 => ?_)
      refine lv_aload_n hx hb dX12_remembers_73 rfl (lv_at hl 1 rfl) ?_
      refine va_get (D := (dC, dI)) (ci := 12) (v := .ref g0) (C := RX12) (T := TX12) (N := 32) hx hb hT iX12 hown hK hP 0 rfl rfl 0 (by decide) (hT _ w1082) (fun _ h9 => h9) rfl dX12_remembers_74 ?_
      refine lv_iload_n hx hb dX12_remembers_77 rfl (lv_at hl 0 rfl) ?_
      refine va_iald hx hb hK hP 1 0 rfl rfl (vp_in_nI hlt (by decide)) dX12_remembers_78 ?_
      refine lv_topi (fun x_4 ex_4 => ?_)
      refine va_iast hx hb hK hP hD hS 2 1 rfl rfl (by rw [ez_3]; exact rm_in hlt) dX12_remembers_79 (fun H locs hP hD hS => ?_)
      obtain ⟨f_5, hf_5⟩ : ∃ gg : Nat → Int32, gg = upd f_g2 z_3.toNatClampNeg x_4 := ⟨_, rfl⟩
      rw [← hf_5] at hP hD
      have hP : va_P (dC, dI) vwCl [(m0, .inr (12, [.ref g0, .ref g1, .ref g2, .ref g3, .ref g4, .int 0, .int 0, .int 0, .int 0, .ref g9, .int 0, .int 0, .int 0, .int 0, .int (-1), .int 0, .int 0, .ref g17, .ref g18, .int 0, .ref g20, .ref g21, .ref g22, .ref g23, .ref g24, .ref g25, .ref g26, .ref g27, .ref g28, .ref g29, .ref g30, .int 0])), (g0, .inl (cS, 266, .inl f)), (g2, .inl (cT, 2660, .inl f_5))] H := hP
      have hD : va_D A [(m0, .inr (12, [.ref g0, .ref g1, .ref g2, .ref g3, .ref g4, .int 0, .int 0, .int 0, .int 0, .ref g9, .int 0, .int 0, .int 0, .int 0, .int (-1), .int 0, .int 0, .ref g17, .ref g18, .int 0, .ref g20, .ref g21, .ref g22, .ref g23, .ref g24, .ref g25, .ref g26, .ref g27, .ref g28, .ref g29, .ref g30, .int 0])), (g0, .inl (cS, 266, .inl f)), (g2, .inl (cT, 2660, .inl f_5))] := hD
      refine lv_iinc (v := nI (i + 1)) (lv' := [(1, .int (nI (i + 1))), (0, .ref m0)]) hx hb dX12_remembers_80 hl (k := 0) rfl (nI_1 _) (by decide) rfl (fun ls hl => ?_)
      refine lv_goto (tgt := 52) hx hb dX12_remembers_83 (by decide) ?_
      exact ih (i + 1) (by omega) f_5 _ _ (hP.sub [0, 1, 2] rfl) (hD.sub [0, 1, 2] (by decide) rfl) hS ls (lv_sub hl [0, 1] rfl)
  exact loop 266 0 (by omega) ft _ _ hP hD hS ls hl

set_option maxHeartbeats 4000000 in
set_option maxRecDepth 100000 in
theorem m_mode (l : Launch) (dC : Nat → ClassId) (dI : Nat → Nat → Nat) (m0 : Nat) (g0 : Nat) (g1 : Nat) (g2 : Nat) (g3 : Nat) (g4 : Nat) (g9 : Nat) (g17 : Nat) (g18 : Nat) (g20 : Nat) (g21 : Nat) (g22 : Nat) (g23 : Nat) (g24 : Nat) (g25 : Nat) (g26 : Nat) (g27 : Nat) (g28 : Nat) (g29 : Nat) (g30 : Nat) (cS : ClassId) (f : Nat → Int32) (cT : ClassId) (ft : Nat → Int32) (sz : Nat) (k0 : Int32) (hf1 : f 1 = 0) : Met l yX12_mode (wT yX12_mode cX12_mode 3 (some .int)) ({ frames := 1, cells := 0, slots := 0, locals := 25 }) (pcW dC dI [.ref m0, .int k0] sz [(m0, .inr (12, [.ref g0, .ref g1, .ref g2, .ref g3, .ref g4, .int 0, .int 0, .int 0, .int 0, .ref g9, .int 0, .int 0, .int 0, .int 0, .int (-1), .int 0, .int 0, .ref g17, .ref g18, .int 0, .ref g20, .ref g21, .ref g22, .ref g23, .ref g24, .ref g25, .ref g26, .ref g27, .ref g28, .ref g29, .ref g30, .int 0])), (g0, .inl (cS, 266, .inl f)), (g2, .inl (cT, 2660, .inl ft))] [(cS, .int), (cT, .int)]) (va_Qi (fun (r : Int32) (_ : Unit) => r = (if 0 ≤ k0 ∧ k0 ≤ 3 then 0 else (-3))) (fun _ _ => True) (va_A [(m0, .inr (12, [.ref g0, .ref g1, .ref g2, .ref g3, .ref g4, .int 0, .int 0, .int 0, .int 0, .ref g9, .int 0, .int 0, .int 0, .int 0, .int (-1), .int 0, .int 0, .ref g17, .ref g18, .int 0, .ref g20, .ref g21, .ref g22, .ref g23, .ref g24, .ref g25, .ref g26, .ref g27, .ref g28, .ref g29, .ref g30, .int 0])), (g0, .inl (cS, 266, .inl f)), (g2, .inl (cT, 2660, .inl ft))] sz)) 0 0 (va_A [(m0, .inr (12, [.ref g0, .ref g1, .ref g2, .ref g3, .ref g4, .int 0, .int 0, .int 0, .int 0, .ref g9, .int 0, .int 0, .int 0, .int 0, .int (-1), .int 0, .int 0, .ref g17, .ref g18, .int 0, .ref g20, .ref g21, .ref g22, .ref g23, .ref g24, .ref g25, .ref g26, .ref g27, .ref g28, .ref g29, .ref g30, .int 0])), (g0, .inl (cS, 266, .inl f)), (g2, .inl (cT, 2660, .inl ft))] sz) := by
  refine Met.ofW (cc := cX12_mode) (maxL := 3) (ret := (some .int)) (by decide) rfl ?_
  intro p e s m args below meth c s₁ B hml hv
  obtain ⟨rfl, hsz, hP, hK, hD0⟩ := hv
  have hx := B.exec
  have hb := B.bytes
  have hr := B.returns
  have hT : ∀ w ∈ TB, w.before [.ref m0, .int k0].toArray s = true := fun w h => atoms_spec (ws := wT yX12_mode cX12_mode 3 (some .int)) B.pre w (List.mem_cons_of_mem _ h)
  have hown : s.vm.findClass RX12 = some m.cls := findClass_of_methodNamed B.named
  have hlocks := B.notSynchronized
  subst hsz
  have hD := hD0.self (sz := s.heap.size)
  generalize hAe : va_A [(m0, .inr (12, [.ref g0, .ref g1, .ref g2, .ref g3, .ref g4, .int 0, .int 0, .int 0, .int 0, .ref g9, .int 0, .int 0, .int 0, .int 0, .int (-1), .int 0, .int 0, .ref g17, .ref g18, .int 0, .ref g20, .ref g21, .ref g22, .ref g23, .ref g24, .ref g25, .ref g26, .ref g27, .ref g28, .ref g29, .ref g30, .int 0])), (g0, .inl (cS, 266, .inl f)), (g2, .inl (cT, 2660, .inl ft))] s.heap.size = A at hD ⊢
  have hA : ∀ q : Nat, s.heap.size ≤ q → A q := fun q h => by rw [← hAe]; exact Or.inr h
  have hS : va_S A s.heap s.heap [] := va_S.rf
  have hP : va_P (dC, dI) vwCl [(m0, .inr (12, [.ref g0, .ref g1, .ref g2, .ref g3, .ref g4, .int 0, .int 0, .int 0, .int 0, .ref g9, .int 0, .int 0, .int 0, .int 0, .int (-1), .int 0, .int 0, .ref g17, .ref g18, .int 0, .ref g20, .ref g21, .ref g22, .ref g23, .ref g24, .ref g25, .ref g26, .ref g27, .ref g28, .ref g29, .ref g30, .int 0])), (g0, .inl (cS, 266, .inl f)), (g2, .inl (cT, 2660, .inl ft))] s.heap := hP
  have hl := lv_entry ([.ref m0, .int k0]) (n := 3) (Nat.le_of_ble_eq_true rfl)
  rw [lg_entry_eq]
  generalize (lg_sl ([.ref m0, .int k0]) ++ List.replicate (3 - (lg_sl ([.ref m0, .int k0])).length) Slot.unset).toArray = ls at hl ⊢
  have hl : lv_has ls 3 [(0, .ref m0), (1, .int k0)] := hl
  refine lv_aload_n hx hb dX12_mode_0 rfl (lv_at hl 0 rfl) ?_
  refine lv_iconst (v := 0) hx hb dX12_mode_1 (by decide) ?_
  refine va_put (D := (dC, dI)) (ci := 12) (v := .int 0) (ty := .int) (C := RX12) (T := TX12) (N := 32) hx hb hT iX12 tyX12 tyX12_ok nmX12 hown hK hP hD hS 0 rfl rfl 8 (by decide) (hT _ w1090) (fun _ h9 => h9) rfl (by decide +kernel) rfl rfl (Nat.le_of_ble_eq_true rfl) dX12_mode_2 (fun H locs hP hD hS => ?_)
  have hP : va_P (dC, dI) vwCl [(m0, .inr (12, [.ref g0, .ref g1, .ref g2, .ref g3, .ref g4, .int 0, .int 0, .int 0, .int 0, .ref g9, .int 0, .int 0, .int 0, .int 0, .int (-1), .int 0, .int 0, .ref g17, .ref g18, .int 0, .ref g20, .ref g21, .ref g22, .ref g23, .ref g24, .ref g25, .ref g26, .ref g27, .ref g28, .ref g29, .ref g30, .int 0])), (g0, .inl (cS, 266, .inl f)), (g2, .inl (cT, 2660, .inl ft))] H := hP
  have hD : va_D A [(m0, .inr (12, [.ref g0, .ref g1, .ref g2, .ref g3, .ref g4, .int 0, .int 0, .int 0, .int 0, .ref g9, .int 0, .int 0, .int 0, .int 0, .int (-1), .int 0, .int 0, .ref g17, .ref g18, .int 0, .ref g20, .ref g21, .ref g22, .ref g23, .ref g24, .ref g25, .ref g26, .ref g27, .ref g28, .ref g29, .ref g30, .int 0])), (g0, .inl (cS, 266, .inl f)), (g2, .inl (cT, 2660, .inl ft))] := hD
  refine lv_iload_n hx hb dX12_mode_5 rfl (lv_at hl 1 rfl) ?_
  refine lv_i2l hx hb dX12_mode_6 rfl ?_
  refine lv_topl (fun z_1 ez_1 => ?_)
  refine lv_lconst (v := 0) hx hb dX12_mode_7 (by decide) ?_
  refine lv_ldc2 (v := 3) hx hb hown (hT _ w1317) dX12_mode_8 ?_
  have hPc := hP.sub (ws' := []) [] rfl
  have hDc := hD.sub (ws' := []) [] (by decide) rfl
  have hKc := hK.sub (tys' := []) [] rfl
  refine vp_callSi (va_Run.run (va_runS (As := [.long z_1, .long 0, .long 3]) (rest := []) ⟨hx, hb, hml, hown, hT⟩ (m_isIn l dC dI H.size z_1 0 3) (va_cwS 3 hT (gS w1187 w1188 w14 w1189) rfl rfl rfl (by decide +kernel) ⟨(Nat.le_of_ble_eq_true rfl), (Nat.le_of_ble_eq_true rfl)⟩) ⟨pcW.blind, pcW.pre hPc hKc hDc⟩ rfl rfl hl.1 rfl (lv_room (Nat.le_of_ble_eq_true rfl)) dX12_mode_11 ⟨(Nat.le_of_ble_eq_true rfl), (Nat.le_of_ble_eq_true rfl)⟩)) (fun r_11 hr_11 => ?_)
  obtain rfl : r_11 = (if 0 ≤ z_1 ∧ z_1 ≤ 3 then 1 else 0) := hr_11
  refine lv_if_ne (tgt := 20) hx hb dX12_mode_14 (by decide) (fun c_14 => ?_) (fun c_14 => ?_)
  · refine lv_aload_n hx hb dX12_mode_20 rfl (lv_at hl 0 rfl) ?_
    have hPc := hP.sub (ws' := [(m0, .inr (12, [.ref g0, .ref g1, .ref g2, .ref g3, .ref g4, .int 0, .int 0, .int 0, .int 0, .ref g9, .int 0, .int 0, .int 0, .int 0, .int (-1), .int 0, .int 0, .ref g17, .ref g18, .int 0, .ref g20, .ref g21, .ref g22, .ref g23, .ref g24, .ref g25, .ref g26, .ref g27, .ref g28, .ref g29, .ref g30, .int 0])), (g0, .inl (cS, 266, .inl f)), (g2, .inl (cT, 2660, .inl ft))]) [0, 1, 2] rfl
    have hDc := hD.sub (ws' := [(m0, .inr (12, [.ref g0, .ref g1, .ref g2, .ref g3, .ref g4, .int 0, .int 0, .int 0, .int 0, .ref g9, .int 0, .int 0, .int 0, .int 0, .int (-1), .int 0, .int 0, .ref g17, .ref g18, .int 0, .ref g20, .ref g21, .ref g22, .ref g23, .ref g24, .ref g25, .ref g26, .ref g27, .ref g28, .ref g29, .ref g30, .int 0])), (g0, .inl (cS, 266, .inl f)), (g2, .inl (cT, 2660, .inl ft))]) [0, 1, 2] (by decide) rfl
    have hKc := hK.sub (tys' := [(cS, .int), (cT, .int)]) [0, 1] rfl
    have hFc := va_free (wc := [(m0, .inr (12, [.ref g0, .ref g1, .ref g2, .ref g3, .ref g4, .int 0, .int 0, .int 0, .int 0, .ref g9, .int 0, .int 0, .int 0, .int 0, .int (-1), .int 0, .int 0, .ref g17, .ref g18, .int 0, .ref g20, .ref g21, .ref g22, .ref g23, .ref g24, .ref g25, .ref g26, .ref g27, .ref g28, .ref g29, .ref g30, .int 0])), (g0, .inl (cS, 266, .inl f)), (g2, .inl (cT, 2660, .inl ft))]) hD hS hA [0, 1, 2] rfl
    refine va_callv (va_runV (As := []) (rest := []) ⟨hx, hb, hml, hown, hT⟩ (m_remembers l dC dI m0 g0 g1 g2 g3 g4 g9 g17 g18 g20 g21 g22 g23 g24 g25 g26 g27 g28 g29 g30 cS f cT ft H.size) (cwV 0 hT (gV w1293 w1295 ws75 w14 w1296) rfl rfl rfl (by decide +kernel) ⟨(Nat.le_of_ble_eq_true rfl), (Nat.le_of_ble_eq_true rfl)⟩) ⟨pcW.blind, va_recv hKc hPc (ci := 12) (q0 := 0) rfl rfl, pcW.pre hPc hKc hDc⟩ rfl rfl hl.1 rfl (lv_room (Nat.le_of_ble_eq_true rfl)) dX12_mode_21 ⟨(Nat.le_of_ble_eq_true rfl), (Nat.le_of_ble_eq_true rfl)⟩) hS (fun q _ h => hFc q h) hFc (fun u t H1 locs ht hvm hw hB hz1 hk1 hS => ?_)
    obtain ⟨hP1, hK1, hD1⟩ := hB
    rw [ht] at hP1
    have hK1 := va_K.moved hvm.symm hK1
    obtain ⟨hP, hD⟩ := va_join (wr := []) (w1 := [(m0, .inr (12, [.ref g0, .ref g1, .ref g2, .ref g3, .ref g4, .int 0, .int 0, .int 1, .int 0, .ref g9, .int 0, .int 0, .int 0, .int 0, .int (-1), .int 0, .int 0, .ref g17, .ref g18, .int 0, .ref g20, .ref g21, .ref g22, .ref g23, .ref g24, .ref g25, .ref g26, .ref g27, .ref g28, .ref g29, .ref g30, .int 0])), (g0, .inl (cS, 266, .inl f))]) hP hD [0, 1, 2] [] rfl rfl (by decide) (by decide) hk1 hFc hP1 hD1
    have hK := hK.app hK1
    generalize H1 = H at hP hS ⊢
    have hP : va_P (dC, dI) vwCl [(m0, .inr (12, [.ref g0, .ref g1, .ref g2, .ref g3, .ref g4, .int 0, .int 0, .int 1, .int 0, .ref g9, .int 0, .int 0, .int 0, .int 0, .int (-1), .int 0, .int 0, .ref g17, .ref g18, .int 0, .ref g20, .ref g21, .ref g22, .ref g23, .ref g24, .ref g25, .ref g26, .ref g27, .ref g28, .ref g29, .ref g30, .int 0])), (g0, .inl (cS, 266, .inl f))] H := hP
    have hD : va_D A [(m0, .inr (12, [.ref g0, .ref g1, .ref g2, .ref g3, .ref g4, .int 0, .int 0, .int 1, .int 0, .ref g9, .int 0, .int 0, .int 0, .int 0, .int (-1), .int 0, .int 0, .ref g17, .ref g18, .int 0, .ref g20, .ref g21, .ref g22, .ref g23, .ref g24, .ref g25, .ref g26, .ref g27, .ref g28, .ref g29, .ref g30, .int 0])), (g0, .inl (cS, 266, .inl f))] := hD
    have hK : va_K (dC, dI) vwCl [(cS, .int), (cT, .int), (cS, .int)] s := hK
    refine W.widen (k := 0) (n := 0) (Nat.le_of_ble_eq_true rfl) (Nat.le_of_ble_eq_true rfl) ?_
    refine lv_aload_n hx hb dX12_mode_24 rfl (lv_at hl 0 rfl) ?_
    refine va_get (D := (dC, dI)) (ci := 12) (v := .ref g0) (C := RX12) (T := TX12) (N := 32) hx hb hT iX12 hown hK hP 0 rfl rfl 0 (by decide) (hT _ w1082) (fun _ h9 => h9) rfl dX12_mode_25 ?_
    refine lv_iconst (v := 1) hx hb dX12_mode_28 (by decide) ?_
    refine va_iald hx hb hK hP 1 0 rfl rfl (by unfold vp_in; decide) dX12_mode_29 ?_
    refine lv_topi (fun x_2 ex_2 => ?_)
    obtain rfl : x_2 = 0 := ex_2.trans hf1
    refine lv_istore_n (lv' := [(2, .int 0), (0, .ref m0), (1, .int k0)]) hx hb dX12_mode_30 rfl hl (by decide) rfl (fun ls hl => ?_)
    refine lv_aload_n hx hb dX12_mode_31 rfl (lv_at hl 1 rfl) ?_
    refine va_get (D := (dC, dI)) (ci := 12) (v := .ref g0) (C := RX12) (T := TX12) (N := 32) hx hb hT iX12 hown hK hP 0 rfl rfl 0 (by decide) (hT _ w1082) (fun _ h9 => h9) rfl dX12_mode_32 ?_
    refine lv_iconst (v := 1) hx hb dX12_mode_35 (by decide) ?_
    refine lv_iload_n hx hb dX12_mode_36 rfl (lv_at hl 2 rfl) ?_
    refine va_iast hx hb hK hP hD hS 1 0 rfl rfl (by unfold vp_in; decide) dX12_mode_37 (fun H locs hP hD hS => ?_)
    obtain ⟨f_3, hf_3⟩ : ∃ gg : Nat → Int32, gg = upd f (1 : Int32).toNatClampNeg k0 := ⟨_, rfl⟩
    rw [← hf_3] at hP hD
    have hP : va_P (dC, dI) vwCl [(m0, .inr (12, [.ref g0, .ref g1, .ref g2, .ref g3, .ref g4, .int 0, .int 0, .int 1, .int 0, .ref g9, .int 0, .int 0, .int 0, .int 0, .int (-1), .int 0, .int 0, .ref g17, .ref g18, .int 0, .ref g20, .ref g21, .ref g22, .ref g23, .ref g24, .ref g25, .ref g26, .ref g27, .ref g28, .ref g29, .ref g30, .int 0])), (g0, .inl (cS, 266, .inl f_3))] H := hP
    have hD : va_D A [(m0, .inr (12, [.ref g0, .ref g1, .ref g2, .ref g3, .ref g4, .int 0, .int 0, .int 1, .int 0, .ref g9, .int 0, .int 0, .int 0, .int 0, .int (-1), .int 0, .int 0, .ref g17, .ref g18, .int 0, .ref g20, .ref g21, .ref g22, .ref g23, .ref g24, .ref g25, .ref g26, .ref g27, .ref g28, .ref g29, .ref g30, .int 0])), (g0, .inl (cS, 266, .inl f_3))] := hD
    refine lv_iload_n hx hb dX12_mode_38 rfl (lv_at hl 0 rfl) ?_
    refine W.widen (k := 0) (n := 0) (Nat.le_of_ble_eq_true rfl) (Nat.le_of_ble_eq_true rfl) ?_
    exact W.iret (v := 0) hx hb hr (fun t ht hW => ⟨⟨0, (), rfl, (mm_b ez_1 c_14), trivial⟩, hS.F ht⟩) hS.2.2 dX12_mode_39
  · refine lv_bipush (v := (-3)) hx hb dX12_mode_17 (by decide) ?_
    refine W.widen (k := 0) (n := 0) (Nat.le_of_ble_eq_true rfl) (Nat.le_of_ble_eq_true rfl) ?_
    exact W.iret (v := (-3)) hx hb hr (fun t ht hW => ⟨⟨(-3), (), rfl, (mm_a ez_1 c_14), trivial⟩, hS.F ht⟩) hS.2.2 dX12_mode_19
