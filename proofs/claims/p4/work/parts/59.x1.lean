/-! the class's names -/
def SAM (lt ln : Nat → Int32) (t : Nat) (g : Nat → Int32) (a n : Nat) : Prop := ln t = nI n ∧ ∀ j, j < n → lt (t * 8 + j) = g (a + j)
def FDC9 (lt ln : Nat → Int32) (o num : Nat) (g : Nat → Int32) (a n : Nat) (r : Int32) : Prop := (r = -1 ∧ ∀ k, k < num → ¬ SAM lt ln (o + k) g a n) ∨ (∃ k, k < num ∧ r = nI k ∧ SAM lt ln (o + k) g a n ∧ ∀ j, j < k → ¬ SAM lt ln (o + j) g a n)
/-- the names in the class, by places in the text -/
def NMC (g : Nat → Int32) (df : Nat → Nat × Nat) (lt ln : Nat → Int32) (o num : Nat) : Prop := ∀ k, k < num → ln (o + k) = nI (df (o + k)).2 ∧ NOK g (df (o + k)).1 (df (o + k)).2 ∧ ∀ j, j < (df (o + k)).2 → lt ((o + k) * 8 + j) = g ((df (o + k)).1 + j)
section NAMES
variable {g lt ln : Nat → Int32} {df : Nat → Nat × Nat} {o num a n k : Nat} {r : Int32}
theorem SAM_e (h : NMC g df lt ln o num) (hk : k < num) (hn : n ≤ 900) : SAM lt ln (o + k) g a n ↔ EQ9 g (df (o + k)).1 (df (o + k)).2 a n := by
  obtain ⟨h1, h2, h3⟩ := h k hk
  have h8 := h2.2.1
  constructor
  · intro ⟨e, m⟩
    have q := (nI_eq (by omega) (by omega)).mp (h1.symm.trans e)
    exact ⟨q, fun j hj => (h3 j hj).symm.trans (m j (by omega))⟩
  · intro ⟨e, m⟩
    exact ⟨by rw [h1, e], fun j hj => (h3 j (by omega)).trans (m j (by omega))⟩
theorem FDC_f (h : NMC g df lt ln o num) (hf : FDC9 lt ln o num g a n r) (hn : n ≤ 900) (hm : num ≤ 12) : (r = -1 ∧ FN g df o num a n = num) ∨ (r = nI (FN g df o num a n) ∧ FN g df o num a n < num) := by
  rcases hf with ⟨e, m⟩ | ⟨k, hk, e, s, m⟩
  · exact Or.inl ⟨e, FN_s (Nat.le_refl _) hm (fun j hj z => m j hj ((SAM_e h hj hn).mpr z)) (Or.inl rfl)⟩
  · have q : FN g df o num a n = k := FN_s (by omega) hm (fun j hj z => m j hj ((SAM_e h (by omega) hn).mpr z)) (Or.inr ((SAM_e h hk hn).mp s))
    rw [q]
    exact Or.inr ⟨e, hk⟩
end NAMES

/-- what the reader's names hold -/
def NQ (S : Nat → va_E) (g : Nat → Int32) (df : Nat → Nat × Nat) (rn np nk : Nat) : Prop := inf (S rn) 2 = nI np ∧ inf (S rn) 3 = nI nk ∧ np ≤ 8 ∧ nk ≤ 4 ∧ NMC g df (fld S rn 0) (fld S rn 1) 0 np ∧ NMC g df (fld S rn 0) (fld S rn 1) 8 nk
set_option maxHeartbeats 4000000 in
set_option maxRecDepth 100000 in
theorem q_same (l : Launch) (dC : Nat → ClassId) (dI : Nat → Nat → Nat) (cy : Nat → ClassId) (L : List Nat) (kap : Nat → Nat) (pr : Pr) (S : Nat → va_E) (sz : Nat) (o : Nat) (t : Nat) (x : Nat) (a : Nat) (n : Nat) (hTy : Ty cy L kap pr S) (hT_o : TK L kap o 3) (hb_t : t < 12) (hT_x : TK L kap x 27) (hb_a : a ≤ 900) (hb_n : a + n ≤ 900) : Met l yX3_same (wT yX3_same cX3_same 6 (some .boolean)) ({ frames := 0, cells := 0, slots := 0, locals := 0 }) (pcN dC dI [.ref o, .int (nI t), .ref x, .int (nI a), .int (nI n)] sz (va_pl L S) (cyT cy) NLs []) (vp_Si (fun r => (r = 1 ∧ SAM (fld S o 0) (fld S o 1) t (af (S x)) a n) ∨ (r = 0 ∧ ¬ SAM (fld S o 0) (fld S o 1) t (af (S x)) a n))) 0 0 (fun _ => False) := by
  refine Met.ofW (cc := cX3_same) (maxL := 6) (ret := (some .boolean)) (by decide) rfl ?_
  intro p e s m args below meth c s₁ B hml hv
  obtain ⟨rfl, hsz, hP, hK, hD0, hN, -⟩ := hv
  have hx := B.exec
  have hb := B.bytes
  have hr := B.returns
  have hT : ∀ wd ∈ TB, wd.before [.ref o, .int (nI t), .ref x, .int (nI a), .int (nI n)].toArray s = true := fun wd h => atoms_spec (ws := wT yX3_same cX3_same 6 (some .boolean)) B.pre wd (List.mem_cons_of_mem _ h)
  have hown : s.vm.findClass RX3 = some m.cls := findClass_of_methodNamed B.named
  have hlocks := B.notSynchronized
  subst hsz
  have hW : PW dC dI L (AL L s.heap.size) s.heap S s.heap [] := ⟨hP, pl_self hD0, va_S.rf⟩
  have hFr : Fr kap [] S S := Fr.rf
  have hl := lv_entry ([.ref o, .int (nI t), .ref x, .int (nI a), .int (nI n)]) (n := 6) (Nat.le_of_ble_eq_true rfl)
  rw [lg_entry_eq]
  generalize (lg_sl ([.ref o, .int (nI t), .ref x, .int (nI a), .int (nI n)]) ++ List.replicate (6 - (lg_sl ([.ref o, .int (nI t), .ref x, .int (nI a), .int (nI n)])).length) Slot.unset).toArray = ls at hl ⊢
  have hl : lv_has ls 6 [(0, .ref o), (1, .int (nI t)), (2, .ref x), (3, .int (nI a)), (4, .int (nI n))] := hl
  obtain ⟨x_1, x_2, x_3, x_4, hS_o, hT_x_1, hT_x_2, hb_x_3, hb_x_4⟩ := hTy.k3 hT_o
  obtain ⟨f_5, hS_x_1⟩ := hTy.k25 hT_x_1
  obtain ⟨f_6, hS_x_2, hi_f_6⟩ := hTy.k26 hT_x_2
  obtain ⟨f_7, hS_x⟩ := hTy.k27 hT_x
  refine lv_aload_n hx hb dX3_same_0 rfl (lv_at hl 0 rfl) ?_
  refine pl_get (ci := 3) (v := .ref x_2) (C := RX3) (T := TX3) (N := 4) hx hb hT iX3 hown hK hW hT_o.1 hS_o rfl 1 (by decide) w60 rfl dX3_same_1 ?_
  refine lv_iload_n hx hb dX3_same_4 rfl (lv_at hl 1 rfl) ?_
  refine pl_iald hx hb hK hW hT_x_2.1 hS_x_2 (vp_in_nI (n := t) (N := 12) (by omega) (by omega)) dX3_same_5 ?_
  refine lv_topi (fun y_8 ey_8 => ?_)
  obtain ⟨k_9, hb_k_9, hq_k_9⟩ := hi_f_6 (t) (by omega)
  obtain rfl : y_8 = nI k_9 := ey_8.trans (by show f_6 (nI (t)).toNatClampNeg = _; rw [nI_clamp (by omega)]; exact hq_k_9)
  refine lv_iload hx hb dX3_same_6 (lv_at hl 4 rfl) ?_
  refine lv_icmp_eq (tgt := 13) hx hb dX3_same_8 (by decide) (fun c_8 => ?_) (fun c_8 => ?_)
  · have c_8 : k_9 = n := (nI_eq (a := k_9) (b := n) (by omega) (by omega)).mp c_8
    refine lv_iconst (v := 0) hx hb dX3_same_13 (by decide) ?_
    refine lv_istore (lv' := [(5, .int 0), (0, .ref o), (1, .int (nI t)), (2, .ref x), (3, .int (nI a)), (4, .int (nI n))]) hx hb dX3_same_14 hl (by decide) rfl (fun ls hl => ?_)
    have loop : ∀ (fuel : Nat) (i : Nat) (ls : Array Slot), 901 - i < fuel → (i ≤ 900) → (i ≤ n) → (∀ j, j < i → f_5 (t * 8 + j) = f_7 (a + j)) → lv_has ls 6 [(5, .int (nI i)), (0, .ref o), (1, .int (nI t)), (2, .ref x), (3, .int (nI a)), (4, .int (nI n))] → W p l e (headSpec (wT yX3_same cX3_same 6 (some .boolean)) { frames := 0, cells := 0, slots := 0, locals := 0 }).room s m [.ref o, .int (nI t), .ref x, .int (nI a), .int (nI n)].toArray below meth c s.heap [] 0 0 (MQ below (vp_Si (fun r => (r = 1 ∧ SAM (fld S o 0) (fld S o 1) t (af (S x)) a n) ∨ (r = 0 ∧ ¬ SAM (fld S o 0) (fld S o 1) t (af (S x)) a n))) [.ref o, .int (nI t), .ref x, .int (nI a), .int (nI n)].toArray s 0 0 (fun _ => False)) (F0 m 16 ls []) := by
      intro fuel
      induction fuel with
      | zero => intro i ls h; exact absurd h (Nat.not_lt_zero _)
      | succ fu16 ih16 =>
        intro i ls hm16 hb_i hil hmt hl
        refine lv_iload hx hb dX3_same_16 (lv_at hl 0 rfl) ?_
        refine lv_iload hx hb dX3_same_18 (lv_at hl 5 rfl) ?_
        refine lv_icmp_ge (tgt := 52) hx hb dX3_same_20 (by decide) (fun c_20 => ?_) (fun c_20 => ?_)
        · have c_20 : n ≤ i := (nI_leI (a := n) (b := i) (by omega) (by omega)).mp c_20
          refine lv_iconst (v := 1) hx hb dX3_same_52 (by decide) ?_
          exact W.zret (ty := .boolean) (v := 1) hx hb hr (by decide) (fun t ht h9 => ⟨1, rfl, (by rw [fld_i hS_o rfl hS_x_1, fld_i hS_o rfl hS_x_2, af_i hS_x]; exact Or.inl ⟨rfl, by rw [hq_k_9, c_8], fun j hj => hmt j (by omega)⟩), ht⟩) (fun q h => by cases h) dX3_same_53
        · have c_20 : ¬ (n ≤ i) := fun hh9 => c_20 ((nI_leI (a := n) (b := i) (by omega) (by omega)).mpr hh9)
          refine lv_aload_n hx hb dX3_same_23 rfl (lv_at hl 1 rfl) ?_
          refine pl_get (ci := 3) (v := .ref x_1) (C := RX3) (T := TX3) (N := 4) hx hb hT iX3 hown hK hW hT_o.1 hS_o rfl 0 (by decide) w58 rfl dX3_same_24 ?_
          refine lv_iload_n hx hb dX3_same_27 rfl (lv_at hl 2 rfl) ?_
          refine lv_bipush (v := 8) hx hb dX3_same_28 (by decide) ?_
          refine lv_imul hx hb dX3_same_30 ?_
          refine lv_topi (fun z_10 ez_10 => ?_)
          obtain rfl : z_10 = nI (t * 8) := ez_10.trans (pk_mul (t) (8))
          refine lv_iload hx hb dX3_same_31 (lv_at hl 0 rfl) ?_
          refine lv_iadd hx hb dX3_same_33 ?_
          refine lv_topi (fun z_11 ez_11 => ?_)
          obtain rfl : z_11 = nI ((t * 8) + i) := ez_11.trans (nI_add (t * 8) (i))
          refine pl_bald hx hb hK hW hT_x_1.1 hS_x_1 (vp_in_nI (n := (t * 8) + i) (N := 96) (by omega) (by omega)) dX3_same_34 ?_
          refine lv_topi (fun y_12 ey_12 => ?_)
          refine lv_aload_n hx hb dX3_same_35 rfl (lv_at hl 3 rfl) ?_
          refine lv_iload_n hx hb dX3_same_36 rfl (lv_at hl 4 rfl) ?_
          refine lv_iload hx hb dX3_same_37 (lv_at hl 0 rfl) ?_
          refine lv_iadd hx hb dX3_same_39 ?_
          refine lv_topi (fun z_13 ez_13 => ?_)
          obtain rfl : z_13 = nI (a + i) := ez_13.trans (nI_add (a) (i))
          refine pl_bald hx hb hK hW hT_x.1 hS_x (vp_in_nI (n := a + i) (N := 900) (by omega) (by omega)) dX3_same_40 ?_
          refine lv_topi (fun y_14 ey_14 => ?_)
          refine lv_icmp_eq (tgt := 46) hx hb dX3_same_41 (by decide) (fun c_41 => ?_) (fun c_41 => ?_)
          · have hmi : f_5 (t * 8 + i) = f_7 (a + i) := by have q1 := ey_12; have q2 := ey_14; rw [nI_clamp (by omega)] at q1 q2; rw [← q1, ← q2]; exact c_41
            refine lv_iinc (v := nI (i + 1)) (lv' := [(5, .int (nI (i + 1))), (0, .ref o), (1, .int (nI t)), (2, .ref x), (3, .int (nI a)), (4, .int (nI n))]) hx hb dX3_same_46 hl (k := 0) rfl (nI_add (i) 1) (by decide) rfl (fun ls hl => ?_)
            refine lv_goto (tgt := 16) hx hb dX3_same_49 (by decide) ?_
            exact ih16 (i + 1) ls (by omega) (by omega) (by omega) (fun j hj => by by_cases q : j = i; rw [q]; exact hmi; exact hmt j (by omega)) (lv_sub hl [0, 1, 2, 3, 4, 5] rfl)
          · refine lv_iconst (v := 0) hx hb dX3_same_44 (by decide) ?_
            exact W.zret (ty := .boolean) (v := 0) hx hb hr (by decide) (fun t ht h9 => ⟨0, rfl, (by rw [fld_i hS_o rfl hS_x_1, fld_i hS_o rfl hS_x_2, af_i hS_x]; exact Or.inr ⟨rfl, fun z => c_41 (by have q1 := ey_12; have q2 := ey_14; rw [nI_clamp (by omega)] at q1 q2; rw [q1, q2]; exact z.2 i (by omega))⟩), ht⟩) (fun q h => by cases h) dX3_same_45
    exact loop ((901 - 0) + 1) 0 ls (Nat.lt_succ_self _) (by omega) (by omega) (fun j h => absurd h (Nat.not_lt_zero _)) (lv_sub hl [0, 1, 2, 3, 4, 5] rfl)
  · have c_8 : ¬ (k_9 = n) := fun hh9 => c_8 ((nI_eq (a := k_9) (b := n) (by omega) (by omega)).mpr hh9)
    refine lv_iconst (v := 0) hx hb dX3_same_11 (by decide) ?_
    exact W.zret (ty := .boolean) (v := 0) hx hb hr (by decide) (fun t ht h9 => ⟨0, rfl, (by rw [fld_i hS_o rfl hS_x_1, fld_i hS_o rfl hS_x_2, af_i hS_x]; exact Or.inr ⟨rfl, fun z => c_8 ((nI_eq (by omega) (by omega)).mp (hq_k_9.symm.trans z.1))⟩), ht⟩) (fun q h => by cases h) dX3_same_12

set_option maxHeartbeats 4000000 in
set_option maxRecDepth 100000 in
theorem q_find (l : Launch) (dC : Nat → ClassId) (dI : Nat → Nat → Nat) (cy : Nat → ClassId) (L : List Nat) (kap : Nat → Nat) (pr : Pr) (S : Nat → va_E) (sz : Nat) (o : Nat) (t : Nat) (q : Nat) (x : Nat) (a : Nat) (n : Nat) (hTy : Ty cy L kap pr S) (hT_o : TK L kap o 3) (hb_t : t ≤ 8) (hb_q : t + q ≤ 12) (hT_x : TK L kap x 27) (hb_a : a ≤ 900) (hb_n : a + n ≤ 900) : Met l yX3_find (wT yX3_find cX3_find 7 (some .int)) ({ frames := 1, cells := 0, slots := 0, locals := 25 }) (pcN dC dI [.ref o, .int (nI t), .int (nI q), .ref x, .int (nI a), .int (nI n)] sz (va_pl L S) (cyT cy) NLs []) (vp_Si (fun r => FDC9 (fld S o 0) (fld S o 1) t q (af (S x)) a n r)) 0 0 (fun _ => False) := by
  refine Met.ofW (cc := cX3_find) (maxL := 7) (ret := (some .int)) (by decide) rfl ?_
  intro p e s m args below meth c s₁ B hml hv
  obtain ⟨rfl, hsz, hP, hK, hD0, hN, -⟩ := hv
  have hx := B.exec
  have hb := B.bytes
  have hr := B.returns
  have hT : ∀ wd ∈ TB, wd.before [.ref o, .int (nI t), .int (nI q), .ref x, .int (nI a), .int (nI n)].toArray s = true := fun wd h => atoms_spec (ws := wT yX3_find cX3_find 7 (some .int)) B.pre wd (List.mem_cons_of_mem _ h)
  have hown : s.vm.findClass RX3 = some m.cls := findClass_of_methodNamed B.named
  have hlocks := B.notSynchronized
  subst hsz
  have hW : PW dC dI L (AL L s.heap.size) s.heap S s.heap [] := ⟨hP, pl_self hD0, va_S.rf⟩
  have hFr : Fr kap [] S S := Fr.rf
  have hl := lv_entry ([.ref o, .int (nI t), .int (nI q), .ref x, .int (nI a), .int (nI n)]) (n := 7) (Nat.le_of_ble_eq_true rfl)
  rw [lg_entry_eq]
  generalize (lg_sl ([.ref o, .int (nI t), .int (nI q), .ref x, .int (nI a), .int (nI n)]) ++ List.replicate (7 - (lg_sl ([.ref o, .int (nI t), .int (nI q), .ref x, .int (nI a), .int (nI n)])).length) Slot.unset).toArray = ls at hl ⊢
  have hl : lv_has ls 7 [(0, .ref o), (1, .int (nI t)), (2, .int (nI q)), (3, .ref x), (4, .int (nI a)), (5, .int (nI n))] := hl
  refine lv_iconst (v := 0) hx hb dX3_find_0 (by decide) ?_
  refine lv_istore (lv' := [(6, .int 0), (0, .ref o), (1, .int (nI t)), (2, .int (nI q)), (3, .ref x), (4, .int (nI a)), (5, .int (nI n))]) hx hb dX3_find_1 hl (by decide) rfl (fun ls hl => ?_)
  have loop : ∀ (fuel : Nat) (i : Nat) (ls : Array Slot), 13 - i < fuel → (i ≤ 12) → (∀ j, j < i → ¬ SAM (fld S o 0) (fld S o 1) (t + j) (af (S x)) a n) → lv_has ls 7 [(6, .int (nI i)), (0, .ref o), (1, .int (nI t)), (2, .int (nI q)), (3, .ref x), (4, .int (nI a)), (5, .int (nI n))] → W p l e (headSpec (wT yX3_find cX3_find 7 (some .int)) { frames := 1, cells := 0, slots := 0, locals := 25 }).room s m [.ref o, .int (nI t), .int (nI q), .ref x, .int (nI a), .int (nI n)].toArray below meth c s.heap [] 0 0 (MQ below (vp_Si (fun r => FDC9 (fld S o 0) (fld S o 1) t q (af (S x)) a n r)) [.ref o, .int (nI t), .int (nI q), .ref x, .int (nI a), .int (nI n)].toArray s 0 0 (fun _ => False)) (F0 m 3 ls []) := by
    intro fuel
    induction fuel with
    | zero => intro i ls h; exact absurd h (Nat.not_lt_zero _)
    | succ fu3 ih3 =>
      intro i ls hm3 hb_i hno hl
      refine lv_iload hx hb dX3_find_3 (lv_at hl 0 rfl) ?_
      refine lv_iload_n hx hb dX3_find_5 rfl (lv_at hl 3 rfl) ?_
      refine lv_icmp_ge (tgt := 34) hx hb dX3_find_6 (by decide) (fun c_6 => ?_) (fun c_6 => ?_)
      · have c_6 : q ≤ i := (nI_leI (a := q) (b := i) (by omega) (by omega)).mp c_6
        refine lv_iconst (v := (-1)) hx hb dX3_find_34 (by decide) ?_
        exact W.iret (v := (-1)) hx hb hr (fun t ht h9 => ⟨(-1), rfl, (Or.inl ⟨rfl, fun k hk => hno k (by omega)⟩), ht⟩) (fun q h => by cases h) dX3_find_35
      · have c_6 : ¬ (q ≤ i) := fun hh9 => c_6 ((nI_leI (a := q) (b := i) (by omega) (by omega)).mpr hh9)
        refine lv_aload_n hx hb dX3_find_9 rfl (lv_at hl 1 rfl) ?_
        refine lv_iload_n hx hb dX3_find_10 rfl (lv_at hl 2 rfl) ?_
        refine lv_iload hx hb dX3_find_11 (lv_at hl 0 rfl) ?_
        refine lv_iadd hx hb dX3_find_13 ?_
        refine lv_topi (fun z_1 ez_1 => ?_)
        obtain rfl : z_1 = nI (t + i) := ez_1.trans (nI_add (t) (i))
        refine lv_aload_n hx hb dX3_find_14 rfl (lv_at hl 4 rfl) ?_
        refine lv_iload hx hb dX3_find_15 (lv_at hl 5 rfl) ?_
        refine lv_iload hx hb dX3_find_17 (lv_at hl 6 rfl) ?_
        obtain ⟨x_2, x_3, x_4, x_5, hS_o, hT_x_2, hT_x_3, hb_x_4, hb_x_5⟩ := hTy.k3 hT_o
        refine vp_callSi (va_Run.run (va_runV (As := [.int (nI (t + i)), .ref x, .int (nI a), .int (nI n)]) (rest := []) ⟨hx, hb, hml, hown, hT⟩ (q_same l dC dI cy L kap pr S s.heap.size o (t + i) x a n hTy hT_o (by omega) hT_x (by omega) (by omega)) (cwV 4 hT (gV w516 w518 ws8 w4 w519) rfl rfl rfl (by decide +kernel) ⟨(Nat.le_of_ble_eq_true rfl), (Nat.le_of_ble_eq_true rfl)⟩) ⟨pcN.blind, pl_recv hK hW hT_o.1 hS_o rfl, pcN.pre hW.1 hK hW.2.1 hN (fun q h => absurd h List.not_mem_nil)⟩ rfl rfl hl.1 rfl (lv_room (Nat.le_of_ble_eq_true rfl)) dX3_find_19 ⟨(Nat.le_of_ble_eq_true rfl), (Nat.le_of_ble_eq_true rfl)⟩)) (fun r_6 hr_6 => ?_)
        rcases hr_6 with hc_ | hc_
        · obtain ⟨rfl, hW_22⟩ := hc_
          refine lv_if_eq (tgt := 28) hx hb dX3_find_22 (by decide) (fun h => absurd h (by decide)) (fun _ => ?_)
          refine lv_iload hx hb dX3_find_25 (lv_at hl 0 rfl) ?_
          exact W.iret (v := nI i) hx hb hr (fun t ht h9 => ⟨nI i, rfl, (Or.inr ⟨i, by omega, rfl, hW_22, hno⟩), ht⟩) (fun q h => by cases h) dX3_find_27
        · obtain ⟨rfl, hW_22⟩ := hc_
          refine lv_if_eq (tgt := 28) hx hb dX3_find_22 (by decide) (fun _ => ?_) (fun h => absurd (by decide) h)
          refine lv_iinc (v := nI (i + 1)) (lv' := [(6, .int (nI (i + 1))), (0, .ref o), (1, .int (nI t)), (2, .int (nI q)), (3, .ref x), (4, .int (nI a)), (5, .int (nI n))]) hx hb dX3_find_28 hl (k := 0) rfl (nI_add (i) 1) (by decide) rfl (fun ls hl => ?_)
          refine lv_goto (tgt := 3) hx hb dX3_find_31 (by decide) ?_
          exact ih3 (i + 1) ls (by omega) (by omega) (fun j hj => by by_cases e_ : j = i; rw [e_]; exact hW_22; exact hno j (by omega)) (lv_sub hl [0, 1, 2, 3, 4, 5, 6] rfl)
  exact loop ((13 - 0) + 1) 0 ls (Nat.lt_succ_self _) (by omega) (fun j h => absurd h (Nat.not_lt_zero _)) (lv_sub hl [0, 1, 2, 3, 4, 5, 6] rfl)

set_option maxHeartbeats 4000000 in
set_option maxRecDepth 100000 in
theorem q_partyHere (l : Launch) (dC : Nat → ClassId) (dI : Nat → Nat → Nat) (cy : Nat → ClassId) (L : List Nat) (kap : Nat → Nat) (pr : Pr) (S : Nat → va_E) (sz : Nat) (o : Nat) (hTy : Ty cy L kap pr S) (hT_o : TK L kap o 6) (g : Nat → Int32) (fa : Int32) (pl : Int32) (rn : Nat) (rb : Nat) (rt : Nat) (en : Nat) (mt : Int32) (tk : Int32) (ta : Nat) (te : Nat) (hQ : RQ S o g fa pl rn rb rt en mt tk ta te) (hab : ta ≤ te) (df : Nat → Nat × Nat) (np : Nat) (nk : Nat) (hNq : NQ S g df rn np nk) : Met l yX6_partyHere (wT yX6_partyHere cX6_partyHere 1 (some .int)) ({ frames := 2, cells := 0, slots := 0, locals := 51 }) (pcN dC dI [.ref o] sz (va_pl L S) (cyT cy) NLs []) (vp_Si (fun r => (r = -1 ∧ FN g df 0 np ta (te - ta) = np) ∨ (r = nI (FN g df 0 np ta (te - ta)) ∧ FN g df 0 np ta (te - ta) < np))) 0 0 (fun _ => False) := by
  refine Met.ofW (cc := cX6_partyHere) (maxL := 1) (ret := (some .int)) (by decide) rfl ?_
  intro p e s m args below meth c s₁ B hml hv
  obtain ⟨rfl, hsz, hP, hK, hD0, hN, -⟩ := hv
  have hx := B.exec
  have hb := B.bytes
  have hr := B.returns
  have hT : ∀ wd ∈ TB, wd.before [.ref o].toArray s = true := fun wd h => atoms_spec (ws := wT yX6_partyHere cX6_partyHere 1 (some .int)) B.pre wd (List.mem_cons_of_mem _ h)
  have hown : s.vm.findClass RX6 = some m.cls := findClass_of_methodNamed B.named
  have hlocks := B.notSynchronized
  subst hsz
  have hW : PW dC dI L (AL L s.heap.size) s.heap S s.heap [] := ⟨hP, pl_self hD0, va_S.rf⟩
  have hFr : Fr kap [] S S := Fr.rf
  have hl := lv_entry ([.ref o]) (n := 1) (Nat.le_of_ble_eq_true rfl)
  rw [lg_entry_eq]
  generalize (lg_sl ([.ref o]) ++ List.replicate (1 - (lg_sl ([.ref o])).length) Slot.unset).toArray = ls at hl ⊢
  have hl : lv_has ls 1 [(0, .ref o)] := hl
  obtain ⟨hS_o, hT_rn, hT_rb, hT_rt, hQg_, hen_, hta_, hte_⟩ := RQk hTy hT_o hQ
  obtain ⟨f_1, hS_rt⟩ := hTy.k27 hT_rt
  have eg_ := hQg_.symm.trans (af_i hS_rt)
  subst eg_
  obtain ⟨x_2, x_3, x_4, x_5, hS_rn, hT_x_2, hT_x_3, hb_x_4, hb_x_5⟩ := hTy.k3 hT_rn
  obtain ⟨hn2_, hn3_, hnp_, hnk_, hN0, hN8⟩ := hNq
  obtain rfl : np = x_4 := (nI_eq (by omega) (by omega)).mp (hn2_.symm.trans (inf_i hS_rn rfl))
  obtain rfl : nk = x_5 := (nI_eq (by omega) (by omega)).mp (hn3_.symm.trans (inf_i hS_rn rfl))
  refine lv_aload_n hx hb dX6_partyHere_0 rfl (lv_at hl 0 rfl) ?_
  refine pl_get (ci := 6) (v := .ref rn) (C := RX6) (T := TX6) (N := 10) hx hb hT iX6 hown hK hW hT_o.1 hS_o rfl 2 (by decide) w143 rfl dX6_partyHere_1 ?_
  refine lv_iconst (v := 0) hx hb dX6_partyHere_4 (by decide) ?_
  refine lv_aload_n hx hb dX6_partyHere_5 rfl (lv_at hl 0 rfl) ?_
  refine pl_get (ci := 6) (v := .ref rn) (C := RX6) (T := TX6) (N := 10) hx hb hT iX6 hown hK hW hT_o.1 hS_o rfl 2 (by decide) w143 rfl dX6_partyHere_6 ?_
  refine pl_get (ci := 3) (v := .int (nI np)) (C := RX3) (T := TX3) (N := 4) hx hb hT iX3 hown hK hW hT_rn.1 hS_rn rfl 2 (by decide) w63 rfl dX6_partyHere_9 ?_
  refine lv_aload_n hx hb dX6_partyHere_12 rfl (lv_at hl 0 rfl) ?_
  refine pl_get (ci := 6) (v := .ref rt) (C := RX6) (T := TX6) (N := 10) hx hb hT iX6 hown hK hW hT_o.1 hS_o rfl 4 (by decide) w147 rfl dX6_partyHere_13 ?_
  refine lv_aload_n hx hb dX6_partyHere_16 rfl (lv_at hl 0 rfl) ?_
  refine pl_get (ci := 6) (v := .int (nI ta)) (C := RX6) (T := TX6) (N := 10) hx hb hT iX6 hown hK hW hT_o.1 hS_o rfl 8 (by decide) w151 rfl dX6_partyHere_17 ?_
  refine lv_aload_n hx hb dX6_partyHere_20 rfl (lv_at hl 0 rfl) ?_
  refine pl_get (ci := 6) (v := .int (nI te)) (C := RX6) (T := TX6) (N := 10) hx hb hT iX6 hown hK hW hT_o.1 hS_o rfl 9 (by decide) w152 rfl dX6_partyHere_21 ?_
  refine lv_aload_n hx hb dX6_partyHere_24 rfl (lv_at hl 0 rfl) ?_
  refine pl_get (ci := 6) (v := .int (nI ta)) (C := RX6) (T := TX6) (N := 10) hx hb hT iX6 hown hK hW hT_o.1 hS_o rfl 8 (by decide) w151 rfl dX6_partyHere_25 ?_
  refine lv_isub hx hb dX6_partyHere_28 ?_
  refine lv_topi (fun z_6 ez_6 => ?_)
  obtain rfl : z_6 = nI (te - ta) := ez_6.trans (pk_sub (a := te) (b := ta) (by omega))
  refine vp_callSi (va_Run.run (va_runV (As := [.int 0, .int (nI np), .ref rt, .int (nI ta), .int (nI (te - ta))]) (rest := []) ⟨hx, hb, hml, hown, hT⟩ (q_find l dC dI cy L kap pr S s.heap.size rn 0 np rt ta (te - ta) hTy hT_rn (by omega) (by omega) hT_rt (by omega) (by omega)) (cwV 5 hT (gV w512 w513 w514 w4 w515) rfl rfl rfl (by decide +kernel) ⟨(Nat.le_of_ble_eq_true rfl), (Nat.le_of_ble_eq_true rfl)⟩) ⟨pcN.blind, pl_recv hK hW hT_rn.1 hS_rn rfl, pcN.pre hW.1 hK hW.2.1 hN (fun q h => absurd h List.not_mem_nil)⟩ rfl rfl hl.1 rfl (lv_room (Nat.le_of_ble_eq_true rfl)) dX6_partyHere_29 ⟨(Nat.le_of_ble_eq_true rfl), (Nat.le_of_ble_eq_true rfl)⟩)) (fun r_7 hr_7 => ?_)
  exact W.iret (v := r_7) hx hb hr (fun t ht h9 => ⟨r_7, rfl, (FDC_f hN0 (by have q := hr_7; rw [af_i hS_rt] at q; exact q) (by omega) (by omega)), ht⟩) (fun q h => by cases h) dX6_partyHere_32

set_option maxHeartbeats 4000000 in
set_option maxRecDepth 100000 in
theorem q_kindHere (l : Launch) (dC : Nat → ClassId) (dI : Nat → Nat → Nat) (cy : Nat → ClassId) (L : List Nat) (kap : Nat → Nat) (pr : Pr) (S : Nat → va_E) (sz : Nat) (o : Nat) (hTy : Ty cy L kap pr S) (hT_o : TK L kap o 6) (g : Nat → Int32) (fa : Int32) (pl : Int32) (rn : Nat) (rb : Nat) (rt : Nat) (en : Nat) (mt : Int32) (tk : Int32) (ta : Nat) (te : Nat) (hQ : RQ S o g fa pl rn rb rt en mt tk ta te) (hab : ta ≤ te) (df : Nat → Nat × Nat) (np : Nat) (nk : Nat) (hNq : NQ S g df rn np nk) : Met l yX6_kindHere (wT yX6_kindHere cX6_kindHere 1 (some .int)) ({ frames := 2, cells := 0, slots := 0, locals := 51 }) (pcN dC dI [.ref o] sz (va_pl L S) (cyT cy) NLs []) (vp_Si (fun r => (r = -1 ∧ FN g df 8 nk ta (te - ta) = nk) ∨ (r = nI (FN g df 8 nk ta (te - ta)) ∧ FN g df 8 nk ta (te - ta) < nk))) 0 0 (fun _ => False) := by
  refine Met.ofW (cc := cX6_kindHere) (maxL := 1) (ret := (some .int)) (by decide) rfl ?_
  intro p e s m args below meth c s₁ B hml hv
  obtain ⟨rfl, hsz, hP, hK, hD0, hN, -⟩ := hv
  have hx := B.exec
  have hb := B.bytes
  have hr := B.returns
  have hT : ∀ wd ∈ TB, wd.before [.ref o].toArray s = true := fun wd h => atoms_spec (ws := wT yX6_kindHere cX6_kindHere 1 (some .int)) B.pre wd (List.mem_cons_of_mem _ h)
  have hown : s.vm.findClass RX6 = some m.cls := findClass_of_methodNamed B.named
  have hlocks := B.notSynchronized
  subst hsz
  have hW : PW dC dI L (AL L s.heap.size) s.heap S s.heap [] := ⟨hP, pl_self hD0, va_S.rf⟩
  have hFr : Fr kap [] S S := Fr.rf
  have hl := lv_entry ([.ref o]) (n := 1) (Nat.le_of_ble_eq_true rfl)
  rw [lg_entry_eq]
  generalize (lg_sl ([.ref o]) ++ List.replicate (1 - (lg_sl ([.ref o])).length) Slot.unset).toArray = ls at hl ⊢
  have hl : lv_has ls 1 [(0, .ref o)] := hl
  obtain ⟨hS_o, hT_rn, hT_rb, hT_rt, hQg_, hen_, hta_, hte_⟩ := RQk hTy hT_o hQ
  obtain ⟨f_1, hS_rt⟩ := hTy.k27 hT_rt
  have eg_ := hQg_.symm.trans (af_i hS_rt)
  subst eg_
  obtain ⟨x_2, x_3, x_4, x_5, hS_rn, hT_x_2, hT_x_3, hb_x_4, hb_x_5⟩ := hTy.k3 hT_rn
  obtain ⟨hn2_, hn3_, hnp_, hnk_, hN0, hN8⟩ := hNq
  obtain rfl : np = x_4 := (nI_eq (by omega) (by omega)).mp (hn2_.symm.trans (inf_i hS_rn rfl))
  obtain rfl : nk = x_5 := (nI_eq (by omega) (by omega)).mp (hn3_.symm.trans (inf_i hS_rn rfl))
  refine lv_aload_n hx hb dX6_kindHere_0 rfl (lv_at hl 0 rfl) ?_
  refine pl_get (ci := 6) (v := .ref rn) (C := RX6) (T := TX6) (N := 10) hx hb hT iX6 hown hK hW hT_o.1 hS_o rfl 2 (by decide) w143 rfl dX6_kindHere_1 ?_
  refine lv_bipush (v := 8) hx hb dX6_kindHere_4 (by decide) ?_
  refine lv_aload_n hx hb dX6_kindHere_6 rfl (lv_at hl 0 rfl) ?_
  refine pl_get (ci := 6) (v := .ref rn) (C := RX6) (T := TX6) (N := 10) hx hb hT iX6 hown hK hW hT_o.1 hS_o rfl 2 (by decide) w143 rfl dX6_kindHere_7 ?_
  refine pl_get (ci := 3) (v := .int (nI nk)) (C := RX3) (T := TX3) (N := 4) hx hb hT iX3 hown hK hW hT_rn.1 hS_rn rfl 3 (by decide) w66 rfl dX6_kindHere_10 ?_
  refine lv_aload_n hx hb dX6_kindHere_13 rfl (lv_at hl 0 rfl) ?_
  refine pl_get (ci := 6) (v := .ref rt) (C := RX6) (T := TX6) (N := 10) hx hb hT iX6 hown hK hW hT_o.1 hS_o rfl 4 (by decide) w147 rfl dX6_kindHere_14 ?_
  refine lv_aload_n hx hb dX6_kindHere_17 rfl (lv_at hl 0 rfl) ?_
  refine pl_get (ci := 6) (v := .int (nI ta)) (C := RX6) (T := TX6) (N := 10) hx hb hT iX6 hown hK hW hT_o.1 hS_o rfl 8 (by decide) w151 rfl dX6_kindHere_18 ?_
  refine lv_aload_n hx hb dX6_kindHere_21 rfl (lv_at hl 0 rfl) ?_
  refine pl_get (ci := 6) (v := .int (nI te)) (C := RX6) (T := TX6) (N := 10) hx hb hT iX6 hown hK hW hT_o.1 hS_o rfl 9 (by decide) w152 rfl dX6_kindHere_22 ?_
  refine lv_aload_n hx hb dX6_kindHere_25 rfl (lv_at hl 0 rfl) ?_
  refine pl_get (ci := 6) (v := .int (nI ta)) (C := RX6) (T := TX6) (N := 10) hx hb hT iX6 hown hK hW hT_o.1 hS_o rfl 8 (by decide) w151 rfl dX6_kindHere_26 ?_
  refine lv_isub hx hb dX6_kindHere_29 ?_
  refine lv_topi (fun z_6 ez_6 => ?_)
  obtain rfl : z_6 = nI (te - ta) := ez_6.trans (pk_sub (a := te) (b := ta) (by omega))
  refine vp_callSi (va_Run.run (va_runV (As := [.int 8, .int (nI nk), .ref rt, .int (nI ta), .int (nI (te - ta))]) (rest := []) ⟨hx, hb, hml, hown, hT⟩ (q_find l dC dI cy L kap pr S s.heap.size rn 8 nk rt ta (te - ta) hTy hT_rn (by omega) (by omega) hT_rt (by omega) (by omega)) (cwV 5 hT (gV w512 w513 w514 w4 w515) rfl rfl rfl (by decide +kernel) ⟨(Nat.le_of_ble_eq_true rfl), (Nat.le_of_ble_eq_true rfl)⟩) ⟨pcN.blind, pl_recv hK hW hT_rn.1 hS_rn rfl, pcN.pre hW.1 hK hW.2.1 hN (fun q h => absurd h List.not_mem_nil)⟩ rfl rfl hl.1 rfl (lv_room (Nat.le_of_ble_eq_true rfl)) dX6_kindHere_30 ⟨(Nat.le_of_ble_eq_true rfl), (Nat.le_of_ble_eq_true rfl)⟩)) (fun r_7 hr_7 => ?_)
  exact W.iret (v := r_7) hx hb hr (fun t ht h9 => ⟨r_7, rfl, (FDC_f hN8 (by have q := hr_7; rw [af_i hS_rt] at q; exact q) (by omega) (by omega)), ht⟩) (fun q h => by cases h) dX6_kindHere_33

