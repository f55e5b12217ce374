/-! a name goes in -/
theorem nar_b {y : Int32} (h : -128 ≤ y.toInt ∧ y.toInt ≤ 127) : vp_nar .byte y = y := by
  rw [vp_nar_byte]
  apply Int32.toInt_inj.mp
  rw [Int8.toInt_toInt32, Int32.toInt_toInt8]
  exact Int.bmod_eq_of_le (by omega) (by omega)
/-- the letters and lengths with the name at t -/
def PUT (lt ln lt1 ln1 : Nat → Int32) (t : Nat) (g : Nat → Int32) (a n : Nat) : Prop := ln1 t = nI n ∧ (∀ k, k ≠ t → ln1 k = ln k) ∧ (∀ j, j < n → lt1 (t * 8 + j) = g (a + j)) ∧ ∀ k, k < t * 8 ∨ t * 8 + 8 ≤ k → lt1 k = lt k
section PUTS
variable {g lt ln lt1 ln1 gl f1 : Nat → Int32} {df : Nat → Nat × Nat} {t a n np nk i : Nat} {y : Int32}
theorem put_s (h : ∀ j, j < i → gl (t * 8 + j) = g (a + j)) (h2 : ∀ k, k < t * 8 ∨ t * 8 + 8 ≤ k → gl k = lt k) (e : f1 = upd gl (nI (t * 8 + i)).toNatClampNeg (vp_nar .byte y)) (hy : y = g (a + i)) (hb : -128 ≤ y.toInt ∧ y.toInt ≤ 127) (ht : t < 12) (hi : i < 8) : (∀ j, j < i + 1 → f1 (t * 8 + j) = g (a + j)) ∧ ∀ k, k < t * 8 ∨ t * 8 + 8 ≤ k → f1 k = lt k := by
  rw [nI_clamp (by omega), nar_b hb] at e
  subst e
  refine ⟨fun j hj => ?_, fun k hk => ?_⟩
  · by_cases q : j = i
    · rw [q, pk_us, hy]
    · rw [pk_un (by omega)]
      exact h j (by omega)
  · rw [pk_un (by omega)]
    exact h2 k hk
theorem PUT_0 (h : NMC g df lt ln 0 np) (hp : PUT lt ln lt1 ln1 np g a n) (hn : NOK g a n) : NMC g (ud df np (a, n)) lt1 ln1 0 (np + 1) := fun k hk => by
  obtain ⟨p1, p2, p3, p4⟩ := hp
  rw [Nat.zero_add]
  by_cases q : k = np
  · subst q
    unfold ud
    rw [if_pos rfl]
    exact ⟨p1, hn, p3⟩
  · have e := h k (by omega)
    rw [Nat.zero_add] at e
    unfold ud
    rw [if_neg q, p2 k q]
    have h8 := e.2.1.2.1
    exact ⟨e.1, e.2.1, fun j hj => (p4 _ (by omega)).trans (e.2.2 j hj)⟩
theorem PUT_08 (h : NMC g df lt ln 8 nk) (hp : PUT lt ln lt1 ln1 np g a n) (hn : np < 8) : NMC g (ud df np (a, n)) lt1 ln1 8 nk := fun k hk => by
  obtain ⟨p1, p2, p3, p4⟩ := hp
  have e := h k hk
  have h8 := e.2.1.2.1
  unfold ud
  rw [if_neg (by omega), p2 _ (by omega)]
  exact ⟨e.1, e.2.1, fun j hj => (p4 _ (by omega)).trans (e.2.2 j hj)⟩
theorem PUT_8 (h : NMC g df lt ln 8 nk) (hp : PUT lt ln lt1 ln1 (8 + nk) g a n) (hn : NOK g a n) : NMC g (ud df (8 + nk) (a, n)) lt1 ln1 8 (nk + 1) := fun k hk => by
  obtain ⟨p1, p2, p3, p4⟩ := hp
  by_cases q : k = nk
  · subst q
    unfold ud
    rw [if_pos rfl]
    exact ⟨p1, hn, p3⟩
  · have e := h k (by omega)
    have h8 := e.2.1.2.1
    unfold ud
    rw [if_neg (by omega), p2 _ (by omega)]
    exact ⟨e.1, e.2.1, fun j hj => (p4 _ (by omega)).trans (e.2.2 j hj)⟩
theorem PUT_80 (h : NMC g df lt ln 0 np) (hp : PUT lt ln lt1 ln1 (8 + nk) g a n) (hn : np ≤ 8) : NMC g (ud df (8 + nk) (a, n)) lt1 ln1 0 np := fun k hk => by
  obtain ⟨p1, p2, p3, p4⟩ := hp
  have e := h k hk
  have h8 := e.2.1.2.1
  rw [Nat.zero_add] at e h8 ⊢
  unfold ud
  rw [if_neg (by omega), p2 _ (by omega)]
  exact ⟨e.1, e.2.1, fun j hj => (p4 _ (by omega)).trans (e.2.2 j hj)⟩
end PUTS

set_option maxHeartbeats 4000000 in
set_option maxRecDepth 100000 in
theorem q_nput (l : Launch) (dC : Nat → ClassId) (dI : Nat → Nat → Nat) (cy : Nat → ClassId) (L : List Nat) (kap : Nat → Nat) (pr : Pr) (S : Nat → va_E) (sz : Nat) (o : Nat) (t : Nat) (x : Nat) (a : Nat) (n : Nat) (hTy : Ty cy L kap pr S) (hT_o : TK L kap o 3) (hb_t : t < 12) (hT_x : TK L kap x 27) (hb_a : a ≤ 900) (hb_n : a + n ≤ 900) (hbr : BR (af (S x))) (hn8 : n ≤ 8) : Met l yX3_put (wT yX3_put cX3_put 6 none) ({ frames := 1, cells := 0, slots := 0, locals := 40 }) (pcN dC dI [.ref o, .int (nI t), .ref x, .int (nI a), .int (nI n)] sz (va_pl L S) (cyT cy) NLs []) (va_Qv (fun S' => Ty cy L kap pr S' ∧ Fr kap [25, 26] S S' ∧ (PUT (fld S o 0) (fld S o 1) (fld S' o 0) (fld S' o 1) t (af (S x)) a n ∧ inf (S' o) 2 = inf (S o) 2 ∧ inf (S' o) 3 = inf (S o) 3)) (fun S' t => pB dC dI (AL L sz) (va_pl L S') (cyT cy) t) (AL L sz)) 0 0 (AL L sz) := by
  refine Met.ofW (cc := cX3_put) (maxL := 6) (ret := none) (by decide) rfl ?_
  intro p e s m args below meth c s₁ B hml hv
  obtain ⟨rfl, hsz, hP, hK, hD0, hN, -⟩ := hv
  have hx := B.exec
  have hb := B.bytes
  have hr := B.returns
  have hT : ∀ wd ∈ TB, wd.before [.ref o, .int (nI t), .ref x, .int (nI a), .int (nI n)].toArray s = true := fun wd h => atoms_spec (ws := wT yX3_put cX3_put 6 none) B.pre wd (List.mem_cons_of_mem _ h)
  have hown : s.vm.findClass RX3 = some m.cls := findClass_of_methodNamed B.named
  have hlocks := B.notSynchronized
  subst hsz
  have hW : PW dC dI L (AL L s.heap.size) s.heap S s.heap [] := ⟨hP, pl_self hD0, va_S.rf⟩
  have hA0 : ∀ q, q ∈ L → AL L s.heap.size q := fun _ h => Or.inl h
  have hA : ∀ q, s.heap.size ≤ q → AL L s.heap.size q := fun _ h => Or.inr h
  have hFr : Fr kap [25, 26] S S := Fr.rf
  have hl := lv_entry ([.ref o, .int (nI t), .ref x, .int (nI a), .int (nI n)]) (n := 6) (Nat.le_of_ble_eq_true rfl)
  rw [lg_entry_eq]
  generalize (lg_sl ([.ref o, .int (nI t), .ref x, .int (nI a), .int (nI n)]) ++ List.replicate (6 - (lg_sl ([.ref o, .int (nI t), .ref x, .int (nI a), .int (nI n)])).length) Slot.unset).toArray = ls at hl ⊢
  have hl : lv_has ls 6 [(0, .ref o), (1, .int (nI t)), (2, .ref x), (3, .int (nI a)), (4, .int (nI n))] := hl
  obtain ⟨x_1, x_2, x_3, x_4, hS_o, hT_x_1, hT_x_2, hb_x_3, hb_x_4⟩ := hTy.k3 hT_o
  obtain ⟨f_5, hS_x_1⟩ := hTy.k25 hT_x_1
  obtain ⟨f_6, hS_x_2, hi_f_6⟩ := hTy.k26 hT_x_2
  obtain ⟨f_7, hS_x⟩ := hTy.k27 hT_x
  have hxg := hbr
  rw [af_i hS_x] at hxg
  have hF0_ : fld S o 0 = f_5 := fld_i hS_o rfl hS_x_1
  have hF1_ : fld S o 1 = f_6 := fld_i hS_o rfl hS_x_2
  have hFx_ : af (S x) = f_7 := af_i hS_x
  have hI2_ := inf_i (i := 2) hS_o rfl
  have hI3_ := inf_i (i := 3) hS_o rfl
  refine lv_aload_n hx hb dX3_put_0 rfl (lv_at hl 0 rfl) ?_
  refine pl_get (ci := 3) (v := .ref x_2) (C := RX3) (T := TX3) (N := 4) hx hb hT iX3 hown hK hW hT_o.1 hS_o rfl 1 (by decide) w60 rfl dX3_put_1 ?_
  refine lv_iload_n hx hb dX3_put_4 rfl (lv_at hl 1 rfl) ?_
  refine lv_iload hx hb dX3_put_5 (lv_at hl 4 rfl) ?_
  refine lv_bipush (v := 8) hx hb dX3_put_7 (by decide) ?_
  refine va_mmin hx hb (hml.trans hl.1.symm) hown (hT _ w532) (hT _ w410) (hT _ w15) (hT _ w411) (Nat.le_of_ble_eq_true rfl) (Nat.le_of_ble_eq_true rfl) (Nat.le_of_ble_eq_true rfl) (Nat.le_of_ble_eq_true rfl) dX3_put_9 ?_
  refine lv_topi (fun z_8 ez_8 => ?_)
  have hz8 : z_8 = nI (min n 8) := ez_8.trans (min8 (by omega))
  subst hz8
  refine pl_iast hx hb hK hW hT_x_2.1 hS_x_2 (vp_in_nI (n := t) (N := 12) (by omega) (by omega)) dX3_put_12 (fun H locs f_10 S_9 ef_f_10 e1 hW => ?_)
  have hi_f_10 := inv_up hi_f_6 ef_f_10 ⟨min n 8, by omega, rfl⟩
  have hTy := hTy.u26 e1 hT_x_2 ⟨f_10, rfl, hi_f_10⟩
  have hS_o := un e1 hT_o hT_x_2 (by decide) hS_o
  have hS_x_1 := un e1 hT_x_1 hT_x_2 (by decide) hS_x_1
  have hS_x := un e1 hT_x hT_x_2 (by decide) hS_x
  have hFr := uf hFr e1 hT_x_2 (by decide) (by decide)
  have hS_x_2 := us e1
  refine lv_iconst (v := 0) hx hb dX3_put_13 (by decide) ?_
  refine lv_istore (lv' := [(5, .int 0), (0, .ref o), (1, .int (nI t)), (2, .ref x), (3, .int (nI a)), (4, .int (nI n))]) hx hb dX3_put_14 hl (by decide) rfl (fun ls hl => ?_)
  have loop : ∀ (fuel : Nat) (i : Nat) (gl : Nat → Int32) (SS : Nat → va_E) (H : Heap) (locs : List Loc) (ls : Array Slot), 9 - i < fuel → (i ≤ 8) → (SS x_1 = .inl (cy 2, 96, .inl gl)) → (∀ j, j < i → gl (t * 8 + j) = f_7 (a + j)) → (∀ k, k < t * 8 ∨ t * 8 + 8 ≤ k → gl k = f_5 k) → (i ≤ n) → Ty cy L kap pr SS → Fr kap [25, 26] S SS → Fr kap [25] S_9 SS → PW dC dI L (AL L s.heap.size) s.heap SS H locs → lv_has ls 6 [(5, .int (nI i)), (0, .ref o), (1, .int (nI t)), (2, .ref x), (3, .int (nI a)), (4, .int (nI n))] → W p l e (headSpec (wT yX3_put cX3_put 6 none) { frames := 1, cells := 0, slots := 0, locals := 40 }).room s m [.ref o, .int (nI t), .ref x, .int (nI a), .int (nI n)].toArray below meth c H locs 0 0 (MQ below (va_Qv (fun S' => Ty cy L kap pr S' ∧ Fr kap [25, 26] S S' ∧ (PUT (fld S o 0) (fld S o 1) (fld S' o 0) (fld S' o 1) t (af (S x)) a n ∧ inf (S' o) 2 = inf (S o) 2 ∧ inf (S' o) 3 = inf (S o) 3)) (fun S' t => pB dC dI (AL L s.heap.size) (va_pl L S') (cyT cy) t) (AL L s.heap.size)) [.ref o, .int (nI t), .ref x, .int (nI a), .int (nI n)].toArray s 0 0 (AL L s.heap.size)) (F0 m 16 ls []) := by
    intro fuel
    induction fuel with
    | zero => intro i gl SS H locs ls h; exact absurd h (Nat.not_lt_zero _)
    | succ fu16 ih16 =>
      intro i gl S_11 H locs ls hm16 hb_i hVl hcp hou hin hTy hFr hFl16 hW hl
      have hS_o := hFl16.at hT_o (by decide) hS_o
      have hS_x_2 := hFl16.at hT_x_2 (by decide) hS_x_2
      have hS_x := hFl16.at hT_x (by decide) hS_x
      refine lv_iload hx hb dX3_put_16 (lv_at hl 0 rfl) ?_
      refine lv_aload_n hx hb dX3_put_18 rfl (lv_at hl 1 rfl) ?_
      refine pl_get (ci := 3) (v := .ref x_2) (C := RX3) (T := TX3) (N := 4) hx hb hT iX3 hown hK hW hT_o.1 hS_o rfl 1 (by decide) w60 rfl dX3_put_19 ?_
      refine lv_iload_n hx hb dX3_put_22 rfl (lv_at hl 2 rfl) ?_
      refine pl_iald hx hb hK hW hT_x_2.1 hS_x_2 (vp_in_nI (n := t) (N := 12) (by omega) (by omega)) dX3_put_23 ?_
      refine lv_topi (fun y_12 ey_12 => ?_)
      have ey_12 : y_12 = nI (min n 8) := ey_12.trans (by rw [ef_f_10]; exact pk_us)
      subst ey_12
      refine lv_icmp_ge (tgt := 51) hx hb dX3_put_24 (by decide) (fun c_24 => ?_) (fun c_24 => ?_)
      · have c_24 : (min n 8) ≤ i := (nI_leI (a := min n 8) (b := i) (by omega) (by omega)).mp c_24
        exact W.vret hx hb hr (fun t ht h9 => ⟨⟨S_11, rfl, ⟨hTy, hFr, ⟨by rw [hF0_, hF1_, hFx_, fld_i hS_o rfl hVl, fld_i hS_o rfl hS_x_2]; exact ⟨by rw [ef_f_10, nI_clamp (by omega), pk_us, show min n 8 = n from by omega], fun k hk => by rw [ef_f_10, nI_clamp (by omega)]; exact pk_un hk, fun j hj => hcp j (by omega), hou⟩, (inf_i hS_o rfl).trans hI2_.symm, (inf_i hS_o rfl).trans hI3_.symm⟩⟩, by rw [ht]; exact hW.1, va_K.moved h9.alike hK, hW.2.1⟩, hW.2.2.F ht⟩) hW.2.2.2.2 dX3_put_51
      · have c_24 : ¬ ((min n 8) ≤ i) := fun hh9 => c_24 ((nI_leI (a := min n 8) (b := i) (by omega) (by omega)).mpr hh9)
        refine lv_aload_n hx hb dX3_put_27 rfl (lv_at hl 1 rfl) ?_
        refine pl_get (ci := 3) (v := .ref x_1) (C := RX3) (T := TX3) (N := 4) hx hb hT iX3 hown hK hW hT_o.1 hS_o rfl 0 (by decide) w58 rfl dX3_put_28 ?_
        refine lv_iload_n hx hb dX3_put_31 rfl (lv_at hl 2 rfl) ?_
        refine lv_bipush (v := 8) hx hb dX3_put_32 (by decide) ?_
        refine lv_imul hx hb dX3_put_34 ?_
        refine lv_topi (fun z_13 ez_13 => ?_)
        obtain rfl : z_13 = nI (t * 8) := ez_13.trans (pk_mul (t) (8))
        refine lv_iload hx hb dX3_put_35 (lv_at hl 0 rfl) ?_
        refine lv_iadd hx hb dX3_put_37 ?_
        refine lv_topi (fun z_14 ez_14 => ?_)
        obtain rfl : z_14 = nI ((t * 8) + i) := ez_14.trans (nI_add (t * 8) (i))
        refine lv_aload_n hx hb dX3_put_38 rfl (lv_at hl 3 rfl) ?_
        refine lv_iload_n hx hb dX3_put_39 rfl (lv_at hl 4 rfl) ?_
        refine lv_iload hx hb dX3_put_40 (lv_at hl 0 rfl) ?_
        refine lv_iadd hx hb dX3_put_42 ?_
        refine lv_topi (fun z_15 ez_15 => ?_)
        obtain rfl : z_15 = nI (a + i) := ez_15.trans (nI_add (a) (i))
        refine pl_bald hx hb hK hW hT_x.1 hS_x (vp_in_nI (n := a + i) (N := 900) (by omega) (by omega)) dX3_put_43 ?_
        refine lv_topi (fun y_16 ey_16 => ?_)
        refine pl_bast hx hb hK hW hT_x_1.1 hVl (vp_in_nI (n := (t * 8) + i) (N := 96) (by omega) (by omega)) dX3_put_44 (fun H locs f_18 S_17 ef_f_18 e1 hW => ?_)
        have hTy := hTy.u25 e1 hT_x_1 ⟨f_18, rfl⟩
        have hS_o := un e1 hT_o hT_x_1 (by decide) hS_o
        have hS_x_2 := un e1 hT_x_2 hT_x_1 (by decide) hS_x_2
        have hS_x := un e1 hT_x hT_x_1 (by decide) hS_x
        have hFr := uf hFr e1 hT_x_1 (by decide) (by decide)
        have hFl16 := uf hFl16 e1 hT_x_1 (by decide) (by decide)
        have hVl := us e1
        have hpt := put_s hcp hou ef_f_18 (by rw [ey_16, nI_clamp (by omega)]) (by rw [ey_16, nI_clamp (by omega)]; exact hxg _ (by omega)) (by omega) (by omega)
        refine lv_iinc (v := nI (i + 1)) (lv' := [(5, .int (nI (i + 1))), (0, .ref o), (1, .int (nI t)), (2, .ref x), (3, .int (nI a)), (4, .int (nI n))]) hx hb dX3_put_45 hl (k := 0) rfl (nI_add (i) 1) (by decide) rfl (fun ls hl => ?_)
        refine lv_goto (tgt := 16) hx hb dX3_put_48 (by decide) ?_
        exact ih16 (i + 1) f_18 _ _ _ ls (by omega) (by omega) hVl hpt.1 hpt.2 (by omega) hTy hFr hFl16 hW (lv_sub hl [0, 1, 2, 3, 4, 5] rfl)
  exact loop ((9 - 0) + 1) 0 f_5 _ _ _ ls (Nat.lt_succ_self _) (by omega) hS_x_1 (fun j h => absurd h (Nat.not_lt_zero _)) (fun _ _ => rfl) (by omega) hTy hFr Fr.rf hW (lv_sub hl [0, 1, 2, 3, 4, 5] rfl)

