set_option maxHeartbeats 4000000 in
set_option maxRecDepth 100000 in
theorem s_fillJ29 (l : Launch) (dC : Nat → ClassId) (dI : Nat → Nat → Nat) (cy : Nat → ClassId) (L : List Nat) (kap : Nat → Nat) (pr : Pr) (S : Nat → va_E) (sz : Nat) (q : Nat) (v : Int64) (hTy : Ty cy L kap pr S) (hT_q : TK L kap q 29) : Met l yJ7_fill_d0a16 (wT yJ7_fill_d0a16 cJ7_fill_d0a16 5 none) ({ frames := 0, cells := 0, slots := 0, locals := 0 }) (pcN dC dI [.ref q, .long v] sz (va_pl L S) (cyT cy) NLs []) (va_Qv (fun S' => Ty cy L kap pr S' ∧ Fr kap [29] S S') (fun S' t => pB dC dI (AL L sz) (va_pl L S') (cyT cy) t) (AL L sz)) 0 0 (AL L sz) := by
  refine Met.ofW (cc := cJ7_fill_d0a16) (maxL := 5) (ret := none) (by decide) rfl ?_
  intro p e s m args below meth c s₁ B hml hv
  obtain ⟨rfl, hsz, hP, hK, hD0, hN, -⟩ := hv
  have hx := B.exec
  have hb := B.bytes
  have hr := B.returns
  have hT : ∀ wd ∈ TB, wd.before [.ref q, .long v].toArray s = true := fun wd h => atoms_spec (ws := wT yJ7_fill_d0a16 cJ7_fill_d0a16 5 none) B.pre wd (List.mem_cons_of_mem _ h)
  have hown : s.vm.findClass RJ7 = some m.cls := findClass_of_methodNamed B.named
  have hlocks := B.notSynchronized
  subst hsz
  have hW : PW dC dI L (AL L s.heap.size) s.heap S s.heap [] := ⟨hP, pl_self hD0, va_S.rf⟩
  have hA0 : ∀ q, q ∈ L → AL L s.heap.size q := fun _ h => Or.inl h
  have hA : ∀ q, s.heap.size ≤ q → AL L s.heap.size q := fun _ h => Or.inr h
  have hFr : Fr kap [29] S S := Fr.rf
  have hl := lv_entry ([.ref q, .long v]) (n := 5) (Nat.le_of_ble_eq_true rfl)
  rw [lg_entry_eq]
  generalize (lg_sl ([.ref q, .long v]) ++ List.replicate (5 - (lg_sl ([.ref q, .long v])).length) Slot.unset).toArray = ls at hl ⊢
  have hl : lv_has ls 5 [(0, .ref q), (1, .long v)] := hl
  refine lv_iconst (v := 0) hx hb dJ7_fill_d0a16_0 (by decide) ?_
  refine lv_istore_n (lv' := [(3, .int 0), (0, .ref q), (1, .long v)]) hx hb dJ7_fill_d0a16_1 rfl hl (by decide) rfl (fun ls hl => ?_)
  refine lv_aload_n hx hb dJ7_fill_d0a16_2 rfl (lv_at hl 1 rfl) ?_
  obtain ⟨f_1, hS_q⟩ := hTy.k29 hT_q
  refine pl_alen (v := 64) hx hb hK hW hT_q.1 hS_q 1 rfl rfl dJ7_fill_d0a16_3 ?_
  refine lv_istore (lv' := [(4, .int 64), (3, .int 0), (0, .ref q), (1, .long v)]) hx hb dJ7_fill_d0a16_4 hl (by decide) rfl (fun ls hl => ?_)
  have loop : ∀ (fuel : Nat) (i : Nat) (SS : Nat → va_E) (H : Heap) (locs : List Loc) (ls : Array Slot), 64 - i < fuel → (i ≤ 64) → Ty cy L kap pr SS → Fr kap [29] S SS → Fr kap [29] S SS → PW dC dI L (AL L s.heap.size) s.heap SS H locs → lv_has ls 5 [(4, .int 64), (3, .int (nI i)), (0, .ref q), (1, .long v)] → W p l e (headSpec (wT yJ7_fill_d0a16 cJ7_fill_d0a16 5 none) { frames := 0, cells := 0, slots := 0, locals := 0 }).room s m [.ref q, .long v].toArray below meth c H locs 0 0 (MQ below (va_Qv (fun S' => Ty cy L kap pr S' ∧ Fr kap [29] S S') (fun S' t => pB dC dI (AL L s.heap.size) (va_pl L S') (cyT cy) t) (AL L s.heap.size)) [.ref q, .long v].toArray s 0 0 (AL L s.heap.size)) (F0 m 6 ls []) := by
    intro fuel
    induction fuel with
    | zero => intro i SS H locs ls h; exact absurd h (Nat.not_lt_zero _)
    | succ fu6 ih6 =>
      intro i S_2 H locs ls hm6 hb_i hTy hFr hFl6 hW hl
      refine lv_iload_n hx hb dJ7_fill_d0a16_6 rfl (lv_at hl 1 rfl) ?_
      refine lv_iload hx hb dJ7_fill_d0a16_7 (lv_at hl 0 rfl) ?_
      refine lv_icmp_ge (tgt := 22) hx hb dJ7_fill_d0a16_9 (by decide) (fun c_9 => ?_) (fun c_9 => ?_)
      · have c_9 : 64 ≤ i := (nI_leI (a := 64) (b := i) (by omega) (by omega)).mp c_9
        exact W.vret hx hb hr (fun t ht h9 => ⟨⟨S_2, rfl, ⟨hTy, hFr⟩, by rw [ht]; exact hW.1, va_K.moved h9.alike hK, hW.2.1⟩, hW.2.2.F ht⟩) hW.2.2.2.2 dJ7_fill_d0a16_22
      · have c_9 : ¬ (64 ≤ i) := fun hh9 => c_9 ((nI_leI (a := 64) (b := i) (by omega) (by omega)).mpr hh9)
        refine lv_aload_n hx hb dJ7_fill_d0a16_12 rfl (lv_at hl 2 rfl) ?_
        refine lv_iload_n hx hb dJ7_fill_d0a16_13 rfl (lv_at hl 1 rfl) ?_
        refine lv_lload_n hx hb dJ7_fill_d0a16_14 rfl (lv_at hl 3 rfl) ?_
        obtain ⟨f_3, hS_q⟩ := hTy.k29 hT_q
        refine pl_last hx hb hK hW hT_q.1 hS_q (vp_in_nI (n := i) (N := 64) (by omega) (by omega)) dJ7_fill_d0a16_15 (fun H locs f_5 S_4 ef_f_5 e1 hW => ?_)
        have hTy := hTy.u29 e1 hT_q ⟨f_5, rfl⟩
        have hFr := uf hFr e1 hT_q (by decide) (by decide)
        have hFl6 := uf hFl6 e1 hT_q (by decide) (by decide)
        have hS_q := us e1
        refine lv_iinc (v := nI (i + 1)) (lv' := [(3, .int (nI (i + 1))), (4, .int 64), (0, .ref q), (1, .long v)]) hx hb dJ7_fill_d0a16_16 hl (k := 1) rfl (nI_add (i) 1) (by decide) rfl (fun ls hl => ?_)
        refine lv_goto (tgt := 6) hx hb dJ7_fill_d0a16_19 (by decide) ?_
        exact ih6 (i + 1) _ _ _ ls (by omega) (by omega) hTy hFr hFl6 hW (lv_sub hl [1, 0, 2, 3] rfl)
  exact loop ((64 - 0) + 1) 0 _ _ _ ls (Nat.lt_succ_self _) (by omega) hTy hFr Fr.rf hW (lv_sub hl [0, 1, 2, 3] rfl)

set_option maxHeartbeats 4000000 in
set_option maxRecDepth 100000 in
theorem s_fillJ43 (l : Launch) (dC : Nat → ClassId) (dI : Nat → Nat → Nat) (cy : Nat → ClassId) (L : List Nat) (kap : Nat → Nat) (pr : Pr) (S : Nat → va_E) (sz : Nat) (q : Nat) (v : Int64) (hTy : Ty cy L kap pr S) (hT_q : TK L kap q 43) : Met l yJ7_fill_d0a16 (wT yJ7_fill_d0a16 cJ7_fill_d0a16 5 none) ({ frames := 0, cells := 0, slots := 0, locals := 0 }) (pcN dC dI [.ref q, .long v] sz (va_pl L S) (cyT cy) NLs []) (va_Qv (fun S' => Ty cy L kap pr S' ∧ Fr kap [43] S S') (fun S' t => pB dC dI (AL L sz) (va_pl L S') (cyT cy) t) (AL L sz)) 0 0 (AL L sz) := by
  refine Met.ofW (cc := cJ7_fill_d0a16) (maxL := 5) (ret := none) (by decide) rfl ?_
  intro p e s m args below meth c s₁ B hml hv
  obtain ⟨rfl, hsz, hP, hK, hD0, hN, -⟩ := hv
  have hx := B.exec
  have hb := B.bytes
  have hr := B.returns
  have hT : ∀ wd ∈ TB, wd.before [.ref q, .long v].toArray s = true := fun wd h => atoms_spec (ws := wT yJ7_fill_d0a16 cJ7_fill_d0a16 5 none) B.pre wd (List.mem_cons_of_mem _ h)
  have hown : s.vm.findClass RJ7 = some m.cls := findClass_of_methodNamed B.named
  have hlocks := B.notSynchronized
  subst hsz
  have hW : PW dC dI L (AL L s.heap.size) s.heap S s.heap [] := ⟨hP, pl_self hD0, va_S.rf⟩
  have hA0 : ∀ q, q ∈ L → AL L s.heap.size q := fun _ h => Or.inl h
  have hA : ∀ q, s.heap.size ≤ q → AL L s.heap.size q := fun _ h => Or.inr h
  have hFr : Fr kap [43] S S := Fr.rf
  have hl := lv_entry ([.ref q, .long v]) (n := 5) (Nat.le_of_ble_eq_true rfl)
  rw [lg_entry_eq]
  generalize (lg_sl ([.ref q, .long v]) ++ List.replicate (5 - (lg_sl ([.ref q, .long v])).length) Slot.unset).toArray = ls at hl ⊢
  have hl : lv_has ls 5 [(0, .ref q), (1, .long v)] := hl
  refine lv_iconst (v := 0) hx hb dJ7_fill_d0a16_0 (by decide) ?_
  refine lv_istore_n (lv' := [(3, .int 0), (0, .ref q), (1, .long v)]) hx hb dJ7_fill_d0a16_1 rfl hl (by decide) rfl (fun ls hl => ?_)
  refine lv_aload_n hx hb dJ7_fill_d0a16_2 rfl (lv_at hl 1 rfl) ?_
  obtain ⟨f_1, hS_q⟩ := hTy.k43 hT_q
  refine pl_alen (v := 64) hx hb hK hW hT_q.1 hS_q 1 rfl rfl dJ7_fill_d0a16_3 ?_
  refine lv_istore (lv' := [(4, .int 64), (3, .int 0), (0, .ref q), (1, .long v)]) hx hb dJ7_fill_d0a16_4 hl (by decide) rfl (fun ls hl => ?_)
  have loop : ∀ (fuel : Nat) (i : Nat) (SS : Nat → va_E) (H : Heap) (locs : List Loc) (ls : Array Slot), 64 - i < fuel → (i ≤ 64) → Ty cy L kap pr SS → Fr kap [43] S SS → Fr kap [43] S SS → PW dC dI L (AL L s.heap.size) s.heap SS H locs → lv_has ls 5 [(4, .int 64), (3, .int (nI i)), (0, .ref q), (1, .long v)] → W p l e (headSpec (wT yJ7_fill_d0a16 cJ7_fill_d0a16 5 none) { frames := 0, cells := 0, slots := 0, locals := 0 }).room s m [.ref q, .long v].toArray below meth c H locs 0 0 (MQ below (va_Qv (fun S' => Ty cy L kap pr S' ∧ Fr kap [43] S S') (fun S' t => pB dC dI (AL L s.heap.size) (va_pl L S') (cyT cy) t) (AL L s.heap.size)) [.ref q, .long v].toArray s 0 0 (AL L s.heap.size)) (F0 m 6 ls []) := by
    intro fuel
    induction fuel with
    | zero => intro i SS H locs ls h; exact absurd h (Nat.not_lt_zero _)
    | succ fu6 ih6 =>
      intro i S_2 H locs ls hm6 hb_i hTy hFr hFl6 hW hl
      refine lv_iload_n hx hb dJ7_fill_d0a16_6 rfl (lv_at hl 1 rfl) ?_
      refine lv_iload hx hb dJ7_fill_d0a16_7 (lv_at hl 0 rfl) ?_
      refine lv_icmp_ge (tgt := 22) hx hb dJ7_fill_d0a16_9 (by decide) (fun c_9 => ?_) (fun c_9 => ?_)
      · have c_9 : 64 ≤ i := (nI_leI (a := 64) (b := i) (by omega) (by omega)).mp c_9
        exact W.vret hx hb hr (fun t ht h9 => ⟨⟨S_2, rfl, ⟨hTy, hFr⟩, by rw [ht]; exact hW.1, va_K.moved h9.alike hK, hW.2.1⟩, hW.2.2.F ht⟩) hW.2.2.2.2 dJ7_fill_d0a16_22
      · have c_9 : ¬ (64 ≤ i) := fun hh9 => c_9 ((nI_leI (a := 64) (b := i) (by omega) (by omega)).mpr hh9)
        refine lv_aload_n hx hb dJ7_fill_d0a16_12 rfl (lv_at hl 2 rfl) ?_
        refine lv_iload_n hx hb dJ7_fill_d0a16_13 rfl (lv_at hl 1 rfl) ?_
        refine lv_lload_n hx hb dJ7_fill_d0a16_14 rfl (lv_at hl 3 rfl) ?_
        obtain ⟨f_3, hS_q⟩ := hTy.k43 hT_q
        refine pl_last hx hb hK hW hT_q.1 hS_q (vp_in_nI (n := i) (N := 64) (by omega) (by omega)) dJ7_fill_d0a16_15 (fun H locs f_5 S_4 ef_f_5 e1 hW => ?_)
        have hTy := hTy.u43 e1 hT_q ⟨f_5, rfl⟩
        have hFr := uf hFr e1 hT_q (by decide) (by decide)
        have hFl6 := uf hFl6 e1 hT_q (by decide) (by decide)
        have hS_q := us e1
        refine lv_iinc (v := nI (i + 1)) (lv' := [(3, .int (nI (i + 1))), (4, .int 64), (0, .ref q), (1, .long v)]) hx hb dJ7_fill_d0a16_16 hl (k := 1) rfl (nI_add (i) 1) (by decide) rfl (fun ls hl => ?_)
        refine lv_goto (tgt := 6) hx hb dJ7_fill_d0a16_19 (by decide) ?_
        exact ih6 (i + 1) _ _ _ ls (by omega) (by omega) hTy hFr hFl6 hW (lv_sub hl [1, 0, 2, 3] rfl)
  exact loop ((64 - 0) + 1) 0 _ _ _ ls (Nat.lt_succ_self _) (by omega) hTy hFr Fr.rf hW (lv_sub hl [0, 1, 2, 3] rfl)

set_option maxHeartbeats 4000000 in
set_option maxRecDepth 100000 in
theorem s_fillJ45 (l : Launch) (dC : Nat → ClassId) (dI : Nat → Nat → Nat) (cy : Nat → ClassId) (L : List Nat) (kap : Nat → Nat) (pr : Pr) (S : Nat → va_E) (sz : Nat) (q : Nat) (v : Int64) (hTy : Ty cy L kap pr S) (hT_q : TK L kap q 45) : Met l yJ7_fill_d0a16 (wT yJ7_fill_d0a16 cJ7_fill_d0a16 5 none) ({ frames := 0, cells := 0, slots := 0, locals := 0 }) (pcN dC dI [.ref q, .long v] sz (va_pl L S) (cyT cy) NLs []) (va_Qv (fun S' => Ty cy L kap pr S' ∧ Fr kap [45] S S') (fun S' t => pB dC dI (AL L sz) (va_pl L S') (cyT cy) t) (AL L sz)) 0 0 (AL L sz) := by
  refine Met.ofW (cc := cJ7_fill_d0a16) (maxL := 5) (ret := none) (by decide) rfl ?_
  intro p e s m args below meth c s₁ B hml hv
  obtain ⟨rfl, hsz, hP, hK, hD0, hN, -⟩ := hv
  have hx := B.exec
  have hb := B.bytes
  have hr := B.returns
  have hT : ∀ wd ∈ TB, wd.before [.ref q, .long v].toArray s = true := fun wd h => atoms_spec (ws := wT yJ7_fill_d0a16 cJ7_fill_d0a16 5 none) B.pre wd (List.mem_cons_of_mem _ h)
  have hown : s.vm.findClass RJ7 = some m.cls := findClass_of_methodNamed B.named
  have hlocks := B.notSynchronized
  subst hsz
  have hW : PW dC dI L (AL L s.heap.size) s.heap S s.heap [] := ⟨hP, pl_self hD0, va_S.rf⟩
  have hA0 : ∀ q, q ∈ L → AL L s.heap.size q := fun _ h => Or.inl h
  have hA : ∀ q, s.heap.size ≤ q → AL L s.heap.size q := fun _ h => Or.inr h
  have hFr : Fr kap [45] S S := Fr.rf
  have hl := lv_entry ([.ref q, .long v]) (n := 5) (Nat.le_of_ble_eq_true rfl)
  rw [lg_entry_eq]
  generalize (lg_sl ([.ref q, .long v]) ++ List.replicate (5 - (lg_sl ([.ref q, .long v])).length) Slot.unset).toArray = ls at hl ⊢
  have hl : lv_has ls 5 [(0, .ref q), (1, .long v)] := hl
  refine lv_iconst (v := 0) hx hb dJ7_fill_d0a16_0 (by decide) ?_
  refine lv_istore_n (lv' := [(3, .int 0), (0, .ref q), (1, .long v)]) hx hb dJ7_fill_d0a16_1 rfl hl (by decide) rfl (fun ls hl => ?_)
  refine lv_aload_n hx hb dJ7_fill_d0a16_2 rfl (lv_at hl 1 rfl) ?_
  obtain ⟨f_1, hS_q⟩ := hTy.k45 hT_q
  refine pl_alen (v := 256) hx hb hK hW hT_q.1 hS_q 1 rfl rfl dJ7_fill_d0a16_3 ?_
  refine lv_istore (lv' := [(4, .int 256), (3, .int 0), (0, .ref q), (1, .long v)]) hx hb dJ7_fill_d0a16_4 hl (by decide) rfl (fun ls hl => ?_)
  have loop : ∀ (fuel : Nat) (i : Nat) (SS : Nat → va_E) (H : Heap) (locs : List Loc) (ls : Array Slot), 256 - i < fuel → (i ≤ 256) → Ty cy L kap pr SS → Fr kap [45] S SS → Fr kap [45] S SS → PW dC dI L (AL L s.heap.size) s.heap SS H locs → lv_has ls 5 [(4, .int 256), (3, .int (nI i)), (0, .ref q), (1, .long v)] → W p l e (headSpec (wT yJ7_fill_d0a16 cJ7_fill_d0a16 5 none) { frames := 0, cells := 0, slots := 0, locals := 0 }).room s m [.ref q, .long v].toArray below meth c H locs 0 0 (MQ below (va_Qv (fun S' => Ty cy L kap pr S' ∧ Fr kap [45] S S') (fun S' t => pB dC dI (AL L s.heap.size) (va_pl L S') (cyT cy) t) (AL L s.heap.size)) [.ref q, .long v].toArray s 0 0 (AL L s.heap.size)) (F0 m 6 ls []) := by
    intro fuel
    induction fuel with
    | zero => intro i SS H locs ls h; exact absurd h (Nat.not_lt_zero _)
    | succ fu6 ih6 =>
      intro i S_2 H locs ls hm6 hb_i hTy hFr hFl6 hW hl
      refine lv_iload_n hx hb dJ7_fill_d0a16_6 rfl (lv_at hl 1 rfl) ?_
      refine lv_iload hx hb dJ7_fill_d0a16_7 (lv_at hl 0 rfl) ?_
      refine lv_icmp_ge (tgt := 22) hx hb dJ7_fill_d0a16_9 (by decide) (fun c_9 => ?_) (fun c_9 => ?_)
      · have c_9 : 256 ≤ i := (nI_leI (a := 256) (b := i) (by omega) (by omega)).mp c_9
        exact W.vret hx hb hr (fun t ht h9 => ⟨⟨S_2, rfl, ⟨hTy, hFr⟩, by rw [ht]; exact hW.1, va_K.moved h9.alike hK, hW.2.1⟩, hW.2.2.F ht⟩) hW.2.2.2.2 dJ7_fill_d0a16_22
      · have c_9 : ¬ (256 ≤ i) := fun hh9 => c_9 ((nI_leI (a := 256) (b := i) (by omega) (by omega)).mpr hh9)
        refine lv_aload_n hx hb dJ7_fill_d0a16_12 rfl (lv_at hl 2 rfl) ?_
        refine lv_iload_n hx hb dJ7_fill_d0a16_13 rfl (lv_at hl 1 rfl) ?_
        refine lv_lload_n hx hb dJ7_fill_d0a16_14 rfl (lv_at hl 3 rfl) ?_
        obtain ⟨f_3, hS_q⟩ := hTy.k45 hT_q
        refine pl_last hx hb hK hW hT_q.1 hS_q (vp_in_nI (n := i) (N := 256) (by omega) (by omega)) dJ7_fill_d0a16_15 (fun H locs f_5 S_4 ef_f_5 e1 hW => ?_)
        have hTy := hTy.u45 e1 hT_q ⟨f_5, rfl⟩
        have hFr := uf hFr e1 hT_q (by decide) (by decide)
        have hFl6 := uf hFl6 e1 hT_q (by decide) (by decide)
        have hS_q := us e1
        refine lv_iinc (v := nI (i + 1)) (lv' := [(3, .int (nI (i + 1))), (4, .int 256), (0, .ref q), (1, .long v)]) hx hb dJ7_fill_d0a16_16 hl (k := 1) rfl (nI_add (i) 1) (by decide) rfl (fun ls hl => ?_)
        refine lv_goto (tgt := 6) hx hb dJ7_fill_d0a16_19 (by decide) ?_
        exact ih6 (i + 1) _ _ _ ls (by omega) (by omega) hTy hFr hFl6 hW (lv_sub hl [1, 0, 2, 3] rfl)
  exact loop ((256 - 0) + 1) 0 _ _ _ ls (Nat.lt_succ_self _) (by omega) hTy hFr Fr.rf hW (lv_sub hl [0, 1, 2, 3] rfl)

set_option maxHeartbeats 4000000 in
set_option maxRecDepth 100000 in
theorem s_fillJ36 (l : Launch) (dC : Nat → ClassId) (dI : Nat → Nat → Nat) (cy : Nat → ClassId) (L : List Nat) (kap : Nat → Nat) (pr : Pr) (S : Nat → va_E) (sz : Nat) (q : Nat) (v : Int64) (hTy : Ty cy L kap pr S) (hT_q : TK L kap q 36) : Met l yJ7_fill_d0a16 (wT yJ7_fill_d0a16 cJ7_fill_d0a16 5 none) ({ frames := 0, cells := 0, slots := 0, locals := 0 }) (pcN dC dI [.ref q, .long v] sz (va_pl L S) (cyT cy) NLs []) (va_Qv (fun S' => Ty cy L kap pr S' ∧ Fr kap [36] S S') (fun S' t => pB dC dI (AL L sz) (va_pl L S') (cyT cy) t) (AL L sz)) 0 0 (AL L sz) := by
  refine Met.ofW (cc := cJ7_fill_d0a16) (maxL := 5) (ret := none) (by decide) rfl ?_
  intro p e s m args below meth c s₁ B hml hv
  obtain ⟨rfl, hsz, hP, hK, hD0, hN, -⟩ := hv
  have hx := B.exec
  have hb := B.bytes
  have hr := B.returns
  have hT : ∀ wd ∈ TB, wd.before [.ref q, .long v].toArray s = true := fun wd h => atoms_spec (ws := wT yJ7_fill_d0a16 cJ7_fill_d0a16 5 none) B.pre wd (List.mem_cons_of_mem _ h)
  have hown : s.vm.findClass RJ7 = some m.cls := findClass_of_methodNamed B.named
  have hlocks := B.notSynchronized
  subst hsz
  have hW : PW dC dI L (AL L s.heap.size) s.heap S s.heap [] := ⟨hP, pl_self hD0, va_S.rf⟩
  have hA0 : ∀ q, q ∈ L → AL L s.heap.size q := fun _ h => Or.inl h
  have hA : ∀ q, s.heap.size ≤ q → AL L s.heap.size q := fun _ h => Or.inr h
  have hFr : Fr kap [36] S S := Fr.rf
  have hl := lv_entry ([.ref q, .long v]) (n := 5) (Nat.le_of_ble_eq_true rfl)
  rw [lg_entry_eq]
  generalize (lg_sl ([.ref q, .long v]) ++ List.replicate (5 - (lg_sl ([.ref q, .long v])).length) Slot.unset).toArray = ls at hl ⊢
  have hl : lv_has ls 5 [(0, .ref q), (1, .long v)] := hl
  refine lv_iconst (v := 0) hx hb dJ7_fill_d0a16_0 (by decide) ?_
  refine lv_istore_n (lv' := [(3, .int 0), (0, .ref q), (1, .long v)]) hx hb dJ7_fill_d0a16_1 rfl hl (by decide) rfl (fun ls hl => ?_)
  refine lv_aload_n hx hb dJ7_fill_d0a16_2 rfl (lv_at hl 1 rfl) ?_
  obtain ⟨f_1, hS_q⟩ := hTy.k36 hT_q
  refine pl_alen (v := 16) hx hb hK hW hT_q.1 hS_q 1 rfl rfl dJ7_fill_d0a16_3 ?_
  refine lv_istore (lv' := [(4, .int 16), (3, .int 0), (0, .ref q), (1, .long v)]) hx hb dJ7_fill_d0a16_4 hl (by decide) rfl (fun ls hl => ?_)
  have loop : ∀ (fuel : Nat) (i : Nat) (SS : Nat → va_E) (H : Heap) (locs : List Loc) (ls : Array Slot), 16 - i < fuel → (i ≤ 16) → Ty cy L kap pr SS → Fr kap [36] S SS → Fr kap [36] S SS → PW dC dI L (AL L s.heap.size) s.heap SS H locs → lv_has ls 5 [(4, .int 16), (3, .int (nI i)), (0, .ref q), (1, .long v)] → W p l e (headSpec (wT yJ7_fill_d0a16 cJ7_fill_d0a16 5 none) { frames := 0, cells := 0, slots := 0, locals := 0 }).room s m [.ref q, .long v].toArray below meth c H locs 0 0 (MQ below (va_Qv (fun S' => Ty cy L kap pr S' ∧ Fr kap [36] S S') (fun S' t => pB dC dI (AL L s.heap.size) (va_pl L S') (cyT cy) t) (AL L s.heap.size)) [.ref q, .long v].toArray s 0 0 (AL L s.heap.size)) (F0 m 6 ls []) := by
    intro fuel
    induction fuel with
    | zero => intro i SS H locs ls h; exact absurd h (Nat.not_lt_zero _)
    | succ fu6 ih6 =>
      intro i S_2 H locs ls hm6 hb_i hTy hFr hFl6 hW hl
      refine lv_iload_n hx hb dJ7_fill_d0a16_6 rfl (lv_at hl 1 rfl) ?_
      refine lv_iload hx hb dJ7_fill_d0a16_7 (lv_at hl 0 rfl) ?_
      refine lv_icmp_ge (tgt := 22) hx hb dJ7_fill_d0a16_9 (by decide) (fun c_9 => ?_) (fun c_9 => ?_)
      · have c_9 : 16 ≤ i := (nI_leI (a := 16) (b := i) (by omega) (by omega)).mp c_9
        exact W.vret hx hb hr (fun t ht h9 => ⟨⟨S_2, rfl, ⟨hTy, hFr⟩, by rw [ht]; exact hW.1, va_K.moved h9.alike hK, hW.2.1⟩, hW.2.2.F ht⟩) hW.2.2.2.2 dJ7_fill_d0a16_22
      · have c_9 : ¬ (16 ≤ i) := fun hh9 => c_9 ((nI_leI (a := 16) (b := i) (by omega) (by omega)).mpr hh9)
        refine lv_aload_n hx hb dJ7_fill_d0a16_12 rfl (lv_at hl 2 rfl) ?_
        refine lv_iload_n hx hb dJ7_fill_d0a16_13 rfl (lv_at hl 1 rfl) ?_
        refine lv_lload_n hx hb dJ7_fill_d0a16_14 rfl (lv_at hl 3 rfl) ?_
        obtain ⟨f_3, hS_q⟩ := hTy.k36 hT_q
        refine pl_last hx hb hK hW hT_q.1 hS_q (vp_in_nI (n := i) (N := 16) (by omega) (by omega)) dJ7_fill_d0a16_15 (fun H locs f_5 S_4 ef_f_5 e1 hW => ?_)
        have hTy := hTy.u36 e1 hT_q ⟨f_5, rfl⟩
        have hFr := uf hFr e1 hT_q (by decide) (by decide)
        have hFl6 := uf hFl6 e1 hT_q (by decide) (by decide)
        have hS_q := us e1
        refine lv_iinc (v := nI (i + 1)) (lv' := [(3, .int (nI (i + 1))), (4, .int 16), (0, .ref q), (1, .long v)]) hx hb dJ7_fill_d0a16_16 hl (k := 1) rfl (nI_add (i) 1) (by decide) rfl (fun ls hl => ?_)
        refine lv_goto (tgt := 6) hx hb dJ7_fill_d0a16_19 (by decide) ?_
        exact ih6 (i + 1) _ _ _ ls (by omega) (by omega) hTy hFr hFl6 hW (lv_sub hl [1, 0, 2, 3] rfl)
  exact loop ((16 - 0) + 1) 0 _ _ _ ls (Nat.lt_succ_self _) (by omega) hTy hFr Fr.rf hW (lv_sub hl [0, 1, 2, 3] rfl)

set_option maxHeartbeats 4000000 in
set_option maxRecDepth 100000 in
theorem s_fillI30 (l : Launch) (dC : Nat → ClassId) (dI : Nat → Nat → Nat) (cy : Nat → ClassId) (L : List Nat) (kap : Nat → Nat) (pr : Pr) (S : Nat → va_E) (sz : Nat) (q : Nat) (v : Int32) (hTy : Ty cy L kap pr S) (hT_q : TK L kap q 30) : Met l yJ7_fill_53178 (wT yJ7_fill_53178 cJ7_fill_53178 4 none) ({ frames := 0, cells := 0, slots := 0, locals := 0 }) (pcN dC dI [.ref q, .int v] sz (va_pl L S) (cyT cy) NLs []) (va_Qv (fun S' => Ty cy L kap pr S' ∧ Fr kap [30] S S') (fun S' t => pB dC dI (AL L sz) (va_pl L S') (cyT cy) t) (AL L sz)) 0 0 (AL L sz) := by
  refine Met.ofW (cc := cJ7_fill_53178) (maxL := 4) (ret := none) (by decide) rfl ?_
  intro p e s m args below meth c s₁ B hml hv
  obtain ⟨rfl, hsz, hP, hK, hD0, hN, -⟩ := hv
  have hx := B.exec
  have hb := B.bytes
  have hr := B.returns
  have hT : ∀ wd ∈ TB, wd.before [.ref q, .int v].toArray s = true := fun wd h => atoms_spec (ws := wT yJ7_fill_53178 cJ7_fill_53178 4 none) B.pre wd (List.mem_cons_of_mem _ h)
  have hown : s.vm.findClass RJ7 = some m.cls := findClass_of_methodNamed B.named
  have hlocks := B.notSynchronized
  subst hsz
  have hW : PW dC dI L (AL L s.heap.size) s.heap S s.heap [] := ⟨hP, pl_self hD0, va_S.rf⟩
  have hA0 : ∀ q, q ∈ L → AL L s.heap.size q := fun _ h => Or.inl h
  have hA : ∀ q, s.heap.size ≤ q → AL L s.heap.size q := fun _ h => Or.inr h
  have hFr : Fr kap [30] S S := Fr.rf
  have hl := lv_entry ([.ref q, .int v]) (n := 4) (Nat.le_of_ble_eq_true rfl)
  rw [lg_entry_eq]
  generalize (lg_sl ([.ref q, .int v]) ++ List.replicate (4 - (lg_sl ([.ref q, .int v])).length) Slot.unset).toArray = ls at hl ⊢
  have hl : lv_has ls 4 [(0, .ref q), (1, .int v)] := hl
  refine lv_iconst (v := 0) hx hb dJ7_fill_53178_0 (by decide) ?_
  refine lv_istore_n (lv' := [(2, .int 0), (0, .ref q), (1, .int v)]) hx hb dJ7_fill_53178_1 rfl hl (by decide) rfl (fun ls hl => ?_)
  refine lv_aload_n hx hb dJ7_fill_53178_2 rfl (lv_at hl 1 rfl) ?_
  obtain ⟨f_1, hS_q⟩ := hTy.k30 hT_q
  refine pl_alen (v := 8) hx hb hK hW hT_q.1 hS_q 0 rfl rfl dJ7_fill_53178_3 ?_
  refine lv_istore_n (lv' := [(3, .int 8), (2, .int 0), (0, .ref q), (1, .int v)]) hx hb dJ7_fill_53178_4 rfl hl (by decide) rfl (fun ls hl => ?_)
  have loop : ∀ (fuel : Nat) (i : Nat) (SS : Nat → va_E) (H : Heap) (locs : List Loc) (ls : Array Slot), 8 - i < fuel → (i ≤ 8) → Ty cy L kap pr SS → Fr kap [30] S SS → Fr kap [30] S SS → PW dC dI L (AL L s.heap.size) s.heap SS H locs → lv_has ls 4 [(3, .int 8), (2, .int (nI i)), (0, .ref q), (1, .int v)] → W p l e (headSpec (wT yJ7_fill_53178 cJ7_fill_53178 4 none) { frames := 0, cells := 0, slots := 0, locals := 0 }).room s m [.ref q, .int v].toArray below meth c H locs 0 0 (MQ below (va_Qv (fun S' => Ty cy L kap pr S' ∧ Fr kap [30] S S') (fun S' t => pB dC dI (AL L s.heap.size) (va_pl L S') (cyT cy) t) (AL L s.heap.size)) [.ref q, .int v].toArray s 0 0 (AL L s.heap.size)) (F0 m 5 ls []) := by
    intro fuel
    induction fuel with
    | zero => intro i SS H locs ls h; exact absurd h (Nat.not_lt_zero _)
    | succ fu5 ih5 =>
      intro i S_2 H locs ls hm5 hb_i hTy hFr hFl5 hW hl
      refine lv_iload_n hx hb dJ7_fill_53178_5 rfl (lv_at hl 1 rfl) ?_
      refine lv_iload_n hx hb dJ7_fill_53178_6 rfl (lv_at hl 0 rfl) ?_
      refine lv_icmp_ge (tgt := 20) hx hb dJ7_fill_53178_7 (by decide) (fun c_7 => ?_) (fun c_7 => ?_)
      · have c_7 : 8 ≤ i := (nI_leI (a := 8) (b := i) (by omega) (by omega)).mp c_7
        exact W.vret hx hb hr (fun t ht h9 => ⟨⟨S_2, rfl, ⟨hTy, hFr⟩, by rw [ht]; exact hW.1, va_K.moved h9.alike hK, hW.2.1⟩, hW.2.2.F ht⟩) hW.2.2.2.2 dJ7_fill_53178_20
      · have c_7 : ¬ (8 ≤ i) := fun hh9 => c_7 ((nI_leI (a := 8) (b := i) (by omega) (by omega)).mpr hh9)
        refine lv_aload_n hx hb dJ7_fill_53178_10 rfl (lv_at hl 2 rfl) ?_
        refine lv_iload_n hx hb dJ7_fill_53178_11 rfl (lv_at hl 1 rfl) ?_
        refine lv_iload_n hx hb dJ7_fill_53178_12 rfl (lv_at hl 3 rfl) ?_
        obtain ⟨f_3, hS_q⟩ := hTy.k30 hT_q
        refine pl_iast hx hb hK hW hT_q.1 hS_q (vp_in_nI (n := i) (N := 8) (by omega) (by omega)) dJ7_fill_53178_13 (fun H locs f_5 S_4 ef_f_5 e1 hW => ?_)
        have hTy := hTy.u30 e1 hT_q ⟨f_5, rfl⟩
        have hFr := uf hFr e1 hT_q (by decide) (by decide)
        have hFl5 := uf hFl5 e1 hT_q (by decide) (by decide)
        have hS_q := us e1
        refine lv_iinc (v := nI (i + 1)) (lv' := [(2, .int (nI (i + 1))), (3, .int 8), (0, .ref q), (1, .int v)]) hx hb dJ7_fill_53178_14 hl (k := 1) rfl (nI_add (i) 1) (by decide) rfl (fun ls hl => ?_)
        refine lv_goto (tgt := 5) hx hb dJ7_fill_53178_17 (by decide) ?_
        exact ih5 (i + 1) _ _ _ ls (by omega) (by omega) hTy hFr hFl5 hW (lv_sub hl [1, 0, 2, 3] rfl)
  exact loop ((8 - 0) + 1) 0 _ _ _ ls (Nat.lt_succ_self _) (by omega) hTy hFr Fr.rf hW (lv_sub hl [0, 1, 2, 3] rfl)

set_option maxHeartbeats 4000000 in
set_option maxRecDepth 100000 in
theorem s_fillI35 (l : Launch) (dC : Nat → ClassId) (dI : Nat → Nat → Nat) (cy : Nat → ClassId) (L : List Nat) (kap : Nat → Nat) (pr : Pr) (S : Nat → va_E) (sz : Nat) (q : Nat) (v : Int32) (hTy : Ty cy L kap pr S) (hT_q : TK L kap q 35) : Met l yJ7_fill_53178 (wT yJ7_fill_53178 cJ7_fill_53178 4 none) ({ frames := 0, cells := 0, slots := 0, locals := 0 }) (pcN dC dI [.ref q, .int v] sz (va_pl L S) (cyT cy) NLs []) (va_Qv (fun S' => Ty cy L kap pr S' ∧ Fr kap [35] S S') (fun S' t => pB dC dI (AL L sz) (va_pl L S') (cyT cy) t) (AL L sz)) 0 0 (AL L sz) := by
  refine Met.ofW (cc := cJ7_fill_53178) (maxL := 4) (ret := none) (by decide) rfl ?_
  intro p e s m args below meth c s₁ B hml hv
  obtain ⟨rfl, hsz, hP, hK, hD0, hN, -⟩ := hv
  have hx := B.exec
  have hb := B.bytes
  have hr := B.returns
  have hT : ∀ wd ∈ TB, wd.before [.ref q, .int v].toArray s = true := fun wd h => atoms_spec (ws := wT yJ7_fill_53178 cJ7_fill_53178 4 none) B.pre wd (List.mem_cons_of_mem _ h)
  have hown : s.vm.findClass RJ7 = some m.cls := findClass_of_methodNamed B.named
  have hlocks := B.notSynchronized
  subst hsz
  have hW : PW dC dI L (AL L s.heap.size) s.heap S s.heap [] := ⟨hP, pl_self hD0, va_S.rf⟩
  have hA0 : ∀ q, q ∈ L → AL L s.heap.size q := fun _ h => Or.inl h
  have hA : ∀ q, s.heap.size ≤ q → AL L s.heap.size q := fun _ h => Or.inr h
  have hFr : Fr kap [35] S S := Fr.rf
  have hl := lv_entry ([.ref q, .int v]) (n := 4) (Nat.le_of_ble_eq_true rfl)
  rw [lg_entry_eq]
  generalize (lg_sl ([.ref q, .int v]) ++ List.replicate (4 - (lg_sl ([.ref q, .int v])).length) Slot.unset).toArray = ls at hl ⊢
  have hl : lv_has ls 4 [(0, .ref q), (1, .int v)] := hl
  refine lv_iconst (v := 0) hx hb dJ7_fill_53178_0 (by decide) ?_
  refine lv_istore_n (lv' := [(2, .int 0), (0, .ref q), (1, .int v)]) hx hb dJ7_fill_53178_1 rfl hl (by decide) rfl (fun ls hl => ?_)
  refine lv_aload_n hx hb dJ7_fill_53178_2 rfl (lv_at hl 1 rfl) ?_
  obtain ⟨f_1, hS_q⟩ := hTy.k35 hT_q
  refine pl_alen (v := 16) hx hb hK hW hT_q.1 hS_q 0 rfl rfl dJ7_fill_53178_3 ?_
  refine lv_istore_n (lv' := [(3, .int 16), (2, .int 0), (0, .ref q), (1, .int v)]) hx hb dJ7_fill_53178_4 rfl hl (by decide) rfl (fun ls hl => ?_)
  have loop : ∀ (fuel : Nat) (i : Nat) (SS : Nat → va_E) (H : Heap) (locs : List Loc) (ls : Array Slot), 16 - i < fuel → (i ≤ 16) → Ty cy L kap pr SS → Fr kap [35] S SS → Fr kap [35] S SS → PW dC dI L (AL L s.heap.size) s.heap SS H locs → lv_has ls 4 [(3, .int 16), (2, .int (nI i)), (0, .ref q), (1, .int v)] → W p l e (headSpec (wT yJ7_fill_53178 cJ7_fill_53178 4 none) { frames := 0, cells := 0, slots := 0, locals := 0 }).room s m [.ref q, .int v].toArray below meth c H locs 0 0 (MQ below (va_Qv (fun S' => Ty cy L kap pr S' ∧ Fr kap [35] S S') (fun S' t => pB dC dI (AL L s.heap.size) (va_pl L S') (cyT cy) t) (AL L s.heap.size)) [.ref q, .int v].toArray s 0 0 (AL L s.heap.size)) (F0 m 5 ls []) := by
    intro fuel
    induction fuel with
    | zero => intro i SS H locs ls h; exact absurd h (Nat.not_lt_zero _)
    | succ fu5 ih5 =>
      intro i S_2 H locs ls hm5 hb_i hTy hFr hFl5 hW hl
      refine lv_iload_n hx hb dJ7_fill_53178_5 rfl (lv_at hl 1 rfl) ?_
      refine lv_iload_n hx hb dJ7_fill_53178_6 rfl (lv_at hl 0 rfl) ?_
      refine lv_icmp_ge (tgt := 20) hx hb dJ7_fill_53178_7 (by decide) (fun c_7 => ?_) (fun c_7 => ?_)
      · have c_7 : 16 ≤ i := (nI_leI (a := 16) (b := i) (by omega) (by omega)).mp c_7
        exact W.vret hx hb hr (fun t ht h9 => ⟨⟨S_2, rfl, ⟨hTy, hFr⟩, by rw [ht]; exact hW.1, va_K.moved h9.alike hK, hW.2.1⟩, hW.2.2.F ht⟩) hW.2.2.2.2 dJ7_fill_53178_20
      · have c_7 : ¬ (16 ≤ i) := fun hh9 => c_7 ((nI_leI (a := 16) (b := i) (by omega) (by omega)).mpr hh9)
        refine lv_aload_n hx hb dJ7_fill_53178_10 rfl (lv_at hl 2 rfl) ?_
        refine lv_iload_n hx hb dJ7_fill_53178_11 rfl (lv_at hl 1 rfl) ?_
        refine lv_iload_n hx hb dJ7_fill_53178_12 rfl (lv_at hl 3 rfl) ?_
        obtain ⟨f_3, hS_q⟩ := hTy.k35 hT_q
        refine pl_iast hx hb hK hW hT_q.1 hS_q (vp_in_nI (n := i) (N := 16) (by omega) (by omega)) dJ7_fill_53178_13 (fun H locs f_5 S_4 ef_f_5 e1 hW => ?_)
        have hTy := hTy.u35 e1 hT_q ⟨f_5, rfl⟩
        have hFr := uf hFr e1 hT_q (by decide) (by decide)
        have hFl5 := uf hFl5 e1 hT_q (by decide) (by decide)
        have hS_q := us e1
        refine lv_iinc (v := nI (i + 1)) (lv' := [(2, .int (nI (i + 1))), (3, .int 16), (0, .ref q), (1, .int v)]) hx hb dJ7_fill_53178_14 hl (k := 1) rfl (nI_add (i) 1) (by decide) rfl (fun ls hl => ?_)
        refine lv_goto (tgt := 5) hx hb dJ7_fill_53178_17 (by decide) ?_
        exact ih5 (i + 1) _ _ _ ls (by omega) (by omega) hTy hFr hFl5 hW (lv_sub hl [1, 0, 2, 3] rfl)
  exact loop ((16 - 0) + 1) 0 _ _ _ ls (Nat.lt_succ_self _) (by omega) hTy hFr Fr.rf hW (lv_sub hl [0, 1, 2, 3] rfl)

set_option maxHeartbeats 4000000 in
set_option maxRecDepth 100000 in
theorem s_push (l : Launch) (dC : Nat → ClassId) (dI : Nat → Nat → Nat) (cy : Nat → ClassId) (L : List Nat) (kap : Nat → Nat) (pr : Pr) (S : Nat → va_E) (sz : Nat) (pa : Nat) (b : Nat) (hTy : Ty cy L kap pr S) (hT_pa : TK L kap pa 5) (hT_b : TK L kap b 0) : Met l yX5_push (wT yX5_push cX5_push 2 none) ({ frames := 2, cells := 0, slots := 0, locals := 62 }) (pcN dC dI [.ref pa, .ref b] sz (va_pl L S) (cyT cy) NLs []) (va_Qv (fun S' => Ty cy L kap pr S' ∧ Fr kap [5, 20, 21, 22, 23, 24, 28, 46] S S') (fun S' t => pB dC dI (AL L sz) (va_pl L S') (cyT cy) t) (AL L sz)) 0 0 (AL L sz) := by
  refine Met.ofW (cc := cX5_push) (maxL := 2) (ret := none) (by decide) rfl ?_
  intro p e s m args below meth c s₁ B hml hv
  obtain ⟨rfl, hsz, hP, hK, hD0, hN, -⟩ := hv
  have hx := B.exec
  have hb := B.bytes
  have hr := B.returns
  have hT : ∀ wd ∈ TB, wd.before [.ref pa, .ref b].toArray s = true := fun wd h => atoms_spec (ws := wT yX5_push cX5_push 2 none) B.pre wd (List.mem_cons_of_mem _ h)
  have hown : s.vm.findClass RX5 = some m.cls := findClass_of_methodNamed B.named
  have hlocks := B.notSynchronized
  subst hsz
  have hW : PW dC dI L (AL L s.heap.size) s.heap S s.heap [] := ⟨hP, pl_self hD0, va_S.rf⟩
  have hA0 : ∀ q, q ∈ L → AL L s.heap.size q := fun _ h => Or.inl h
  have hA : ∀ q, s.heap.size ≤ q → AL L s.heap.size q := fun _ h => Or.inr h
  have hFr : Fr kap [5, 20, 21, 22, 23, 24, 28, 46] S S := Fr.rf
  have hl := lv_entry ([.ref pa, .ref b]) (n := 2) (Nat.le_of_ble_eq_true rfl)
  rw [lg_entry_eq]
  generalize (lg_sl ([.ref pa, .ref b]) ++ List.replicate (2 - (lg_sl ([.ref pa, .ref b])).length) Slot.unset).toArray = ls at hl ⊢
  have hl : lv_has ls 2 [(0, .ref pa), (1, .ref b)] := hl
  refine lv_aload_n hx hb dX5_push_0 rfl (lv_at hl 0 rfl) ?_
  obtain ⟨x_1, x_2, hS_pa, hT_x_1, hb_x_2⟩ := hTy.k5 hT_pa
  refine pl_get (ci := 5) (v := .int (nI x_2)) (C := RX5) (T := TX5) (N := 2) hx hb hT iX5 hown hK hW hT_pa.1 hS_pa rfl 1 (by decide) w184 rfl dX5_push_1 ?_
  refine lv_bipush (v := 10) hx hb dX5_push_4 (by decide) ?_
  refine lv_icmp_ne (tgt := 13) hx hb dX5_push_6 (by decide) (fun c_6 => ?_) (fun c_6 => ?_)
  · have c_6 : ¬ (x_2 = 10) := fun hh9 => c_6 ((nI_eq (a := x_2) (b := 10) (by omega) (by omega)).mpr hh9)
    refine lv_aload_n hx hb dX5_push_13 rfl (lv_at hl 0 rfl) ?_
    refine pl_get (ci := 5) (v := .ref x_1) (C := RX5) (T := TX5) (N := 2) hx hb hT iX5 hown hK hW hT_pa.1 hS_pa rfl 0 (by decide) w183 rfl dX5_push_14 ?_
    refine lv_aload_n hx hb dX5_push_17 rfl (lv_at hl 0 rfl) ?_
    refine pl_get (ci := 5) (v := .int (nI x_2)) (C := RX5) (T := TX5) (N := 2) hx hb hT iX5 hown hK hW hT_pa.1 hS_pa rfl 1 (by decide) w184 rfl dX5_push_18 ?_
    obtain ⟨f_3, hS_x_1, hi_f_3⟩ := hTy.k28 hT_x_1
    obtain ⟨b_4, hb_b_4, hT_b_4⟩ := hi_f_3 (x_2) (by omega)
    refine pl_aald hx hb hK hW hT_x_1.1 hS_x_1 (vp_in_nI (n := x_2) (N := 10) (by omega) (by omega)) (b := b_4) (by show f_3 (nI (x_2)).toNatClampNeg = _; rw [nI_clamp (by omega)]; exact hb_b_4) dX5_push_21 ?_
    refine lv_aload_n hx hb dX5_push_22 rfl (lv_at hl 1 rfl) ?_
    obtain ⟨x_5, x_6, x_7, x_8, x_9, x_10, x_11, x_12, hS_b_4, hT_x_5, hT_x_6, hT_x_7, hT_x_8, hT_x_9, hT_x_10, hb_x_11⟩ := hTy.k46 hT_b_4
    refine pl_callv (va_runV (As := [.ref b]) (rest := []) ⟨hx, hb, hml, hown, hT⟩ (s_copyFrom46 l dC dI cy L kap pr S s.heap.size b_4 b hTy hT_b_4 hT_b) (cwV 1 hT (gV w623 w624 w625 w5 w626) rfl rfl rfl (by decide +kernel) ⟨(Nat.le_of_ble_eq_true rfl), (Nat.le_of_ble_eq_true rfl)⟩) ⟨pcN.blind, pl_recv hK hW hT_b_4.1 hS_b_4 rfl, pcN.pre hW.1 hK hW.2.1 hN (fun q h => absurd h List.not_mem_nil)⟩ rfl rfl hl.1 rfl (lv_room (Nat.le_of_ble_eq_true rfl)) dX5_push_23 ⟨(Nat.le_of_ble_eq_true rfl), (Nat.le_of_ble_eq_true rfl)⟩) hW hA0 hA (fun S_13 H locs hrel hW => ?_)
    obtain ⟨hTy, hF1⟩ := hrel
    have hFr := hFr.tr hF1 (by decide)
    have hS_pa := hF1.at hT_pa (by decide) hS_pa
    have hS_x_1 := hF1.at hT_x_1 (by decide) hS_x_1
    refine lv_aload_n hx hb dX5_push_26 rfl (lv_at hl 0 rfl) ?_
    refine lv_dup hx hb dX5_push_27 rfl ?_
    refine pl_get (ci := 5) (v := .int (nI x_2)) (C := RX5) (T := TX5) (N := 2) hx hb hT iX5 hown hK hW hT_pa.1 hS_pa rfl 1 (by decide) w184 rfl dX5_push_28 ?_
    refine lv_iconst (v := 1) hx hb dX5_push_31 (by decide) ?_
    refine lv_iadd hx hb dX5_push_32 ?_
    refine lv_topi (fun z_14 ez_14 => ?_)
    obtain rfl : z_14 = nI (x_2 + 1) := ez_14.trans (nI_add (x_2) (1))
    refine pl_put (ci := 5) (v := .int (nI (x_2 + 1))) (ty := .int) (C := RX5) (T := TX5) (N := 2) (fs' := [.ref x_1, .int (nI (x_2 + 1))]) hx hb hT iX5 tyX5 tyX5_ok nmX5 hown hK hW hT_pa.1 hS_pa rfl 1 (by decide) w184 rfl (by decide +kernel) rfl rfl (Nat.le_of_ble_eq_true rfl) rfl dX5_push_33 (fun H locs S_15 e1 hW => ?_)
    have hTy := hTy.u5 e1 hT_pa ⟨x_1, x_2 + 1, rfl, hT_x_1, (by omega)⟩
    have hS_x_1 := un e1 hT_x_1 hT_pa (by decide) hS_x_1
    have hFr := uf hFr e1 hT_pa (by decide) (by decide)
    have hS_pa := us e1
    exact W.vret hx hb hr (fun t ht h9 => ⟨⟨S_15, rfl, ⟨hTy, hFr⟩, by rw [ht]; exact hW.1, va_K.moved h9.alike hK, hW.2.1⟩, hW.2.2.F ht⟩) hW.2.2.2.2 dX5_push_36
  · have c_6 : x_2 = 10 := (nI_eq (a := x_2) (b := 10) (by omega) (by omega)).mp c_6
    refine lv_aload_n hx hb dX5_push_9 rfl (lv_at hl 0 rfl) ?_
    refine pl_callv (va_runV (As := []) (rest := []) ⟨hx, hb, hml, hown, hT⟩ (s_forget l dC dI cy L kap pr S s.heap.size pa hTy hT_pa ⟨_, by rw [hS_pa, show x_2 = 10 from c_6]⟩) (cwV 0 hT (gV w619 w621 ws26 w7 w622) rfl rfl rfl (by decide +kernel) ⟨(Nat.le_of_ble_eq_true rfl), (Nat.le_of_ble_eq_true rfl)⟩) ⟨pcN.blind, pl_recv hK hW hT_pa.1 hS_pa rfl, pcN.pre hW.1 hK hW.2.1 hN (fun q h => absurd h List.not_mem_nil)⟩ rfl rfl hl.1 rfl (lv_room (Nat.le_of_ble_eq_true rfl)) dX5_push_10 ⟨(Nat.le_of_ble_eq_true rfl), (Nat.le_of_ble_eq_true rfl)⟩) hW hA0 hA (fun S_16 H locs hrel hW => ?_)
    obtain ⟨hTy, hF1, hx1⟩ := hrel
    have hFr := hFr.tr hF1 (by decide)
    obtain ⟨xz, hz⟩ := hx1
    obtain ⟨x_17, x_18, hS_pa, hT_x_17, hb_x_18⟩ := hTy.k5 hT_pa
    have ez := pfix9 (by omega) hS_pa hz
    subst ez
    refine lv_aload_n hx hb dX5_push_13 rfl (lv_at hl 0 rfl) ?_
    refine pl_get (ci := 5) (v := .ref x_17) (C := RX5) (T := TX5) (N := 2) hx hb hT iX5 hown hK hW hT_pa.1 hS_pa rfl 0 (by decide) w183 rfl dX5_push_14 ?_
    refine lv_aload_n hx hb dX5_push_17 rfl (lv_at hl 0 rfl) ?_
    refine pl_get (ci := 5) (v := .int (nI (9))) (C := RX5) (T := TX5) (N := 2) hx hb hT iX5 hown hK hW hT_pa.1 hS_pa rfl 1 (by decide) w184 rfl dX5_push_18 ?_
    obtain ⟨f_19, hS_x_17, hi_f_19⟩ := hTy.k28 hT_x_17
    obtain ⟨b_20, hb_b_20, hT_b_20⟩ := hi_f_19 (9) (by omega)
    refine pl_aald hx hb hK hW hT_x_17.1 hS_x_17 (vp_in_nI (n := 9) (N := 10) (by omega) (by omega)) (b := b_20) (by show f_19 (nI (9)).toNatClampNeg = _; rw [nI_clamp (by omega)]; exact hb_b_20) dX5_push_21 ?_
    refine lv_aload_n hx hb dX5_push_22 rfl (lv_at hl 1 rfl) ?_
    obtain ⟨x_21, x_22, x_23, x_24, x_25, x_26, x_27, x_28, hS_b_20, hT_x_21, hT_x_22, hT_x_23, hT_x_24, hT_x_25, hT_x_26, hb_x_27⟩ := hTy.k46 hT_b_20
    refine pl_callv (va_runV (As := [.ref b]) (rest := []) ⟨hx, hb, hml, hown, hT⟩ (s_copyFrom46 l dC dI cy L kap pr S_16 H.size b_20 b hTy hT_b_20 hT_b) (cwV 1 hT (gV w623 w624 w625 w5 w626) rfl rfl rfl (by decide +kernel) ⟨(Nat.le_of_ble_eq_true rfl), (Nat.le_of_ble_eq_true rfl)⟩) ⟨pcN.blind, pl_recv hK hW hT_b_20.1 hS_b_20 rfl, pcN.pre hW.1 hK hW.2.1 hN (fun q h => absurd h List.not_mem_nil)⟩ rfl rfl hl.1 rfl (lv_room (Nat.le_of_ble_eq_true rfl)) dX5_push_23 ⟨(Nat.le_of_ble_eq_true rfl), (Nat.le_of_ble_eq_true rfl)⟩) hW hA0 hA (fun S_29 H locs hrel hW => ?_)
    obtain ⟨hTy, hF1⟩ := hrel
    have hFr := hFr.tr hF1 (by decide)
    have hS_pa := hF1.at hT_pa (by decide) hS_pa
    have hS_x_17 := hF1.at hT_x_17 (by decide) hS_x_17
    refine lv_aload_n hx hb dX5_push_26 rfl (lv_at hl 0 rfl) ?_
    refine lv_dup hx hb dX5_push_27 rfl ?_
    refine pl_get (ci := 5) (v := .int (nI (9))) (C := RX5) (T := TX5) (N := 2) hx hb hT iX5 hown hK hW hT_pa.1 hS_pa rfl 1 (by decide) w184 rfl dX5_push_28 ?_
    refine lv_iconst (v := 1) hx hb dX5_push_31 (by decide) ?_
    refine lv_iadd hx hb dX5_push_32 ?_
    refine lv_topi (fun z_30 ez_30 => ?_)
    obtain rfl : z_30 = nI (9 + 1) := ez_30.trans (nI_add (9) (1))
    refine pl_put (ci := 5) (v := .int (nI (9 + 1))) (ty := .int) (C := RX5) (T := TX5) (N := 2) (fs' := [.ref x_17, .int (nI (9 + 1))]) hx hb hT iX5 tyX5 tyX5_ok nmX5 hown hK hW hT_pa.1 hS_pa rfl 1 (by decide) w184 rfl (by decide +kernel) rfl rfl (Nat.le_of_ble_eq_true rfl) rfl dX5_push_33 (fun H locs S_31 e1 hW => ?_)
    have hTy := hTy.u5 e1 hT_pa ⟨x_17, 9 + 1, rfl, hT_x_17, (by omega)⟩
    have hS_x_17 := un e1 hT_x_17 hT_pa (by decide) hS_x_17
    have hFr := uf hFr e1 hT_pa (by decide) (by decide)
    have hS_pa := us e1
    exact W.vret hx hb hr (fun t ht h9 => ⟨⟨S_31, rfl, ⟨hTy, hFr⟩, by rw [ht]; exact hW.1, va_K.moved h9.alike hK, hW.2.1⟩, hW.2.2.F ht⟩) hW.2.2.2.2 dX5_push_36

set_option maxHeartbeats 4000000 in
set_option maxRecDepth 100000 in
theorem s_takeBack (l : Launch) (dC : Nat → ClassId) (dI : Nat → Nat → Nat) (cy : Nat → ClassId) (L : List Nat) (kap : Nat → Nat) (pr : Pr) (S : Nat → va_E) (sz : Nat) (pa : Nat) (b : Nat) (hTy : Ty cy L kap pr S) (hT_pa : TK L kap pa 5) (hT_b : TK L kap b 0) : Met l yX5_takeBack (wT yX5_takeBack cX5_takeBack 2 none) ({ frames := 2, cells := 0, slots := 0, locals := 62 }) (pcN dC dI [.ref pa, .ref b] sz (va_pl L S) (cyT cy) NLs []) (va_Qv (fun S' => Ty cy L kap pr S' ∧ Fr kap [0, 5, 20, 21, 22, 23, 24] S S') (fun S' t => pB dC dI (AL L sz) (va_pl L S') (cyT cy) t) (AL L sz)) 0 0 (AL L sz) := by
  refine Met.ofW (cc := cX5_takeBack) (maxL := 2) (ret := none) (by decide) rfl ?_
  intro p e s m args below meth c s₁ B hml hv
  obtain ⟨rfl, hsz, hP, hK, hD0, hN, -⟩ := hv
  have hx := B.exec
  have hb := B.bytes
  have hr := B.returns
  have hT : ∀ wd ∈ TB, wd.before [.ref pa, .ref b].toArray s = true := fun wd h => atoms_spec (ws := wT yX5_takeBack cX5_takeBack 2 none) B.pre wd (List.mem_cons_of_mem _ h)
  have hown : s.vm.findClass RX5 = some m.cls := findClass_of_methodNamed B.named
  have hlocks := B.notSynchronized
  subst hsz
  have hW : PW dC dI L (AL L s.heap.size) s.heap S s.heap [] := ⟨hP, pl_self hD0, va_S.rf⟩
  have hA0 : ∀ q, q ∈ L → AL L s.heap.size q := fun _ h => Or.inl h
  have hA : ∀ q, s.heap.size ≤ q → AL L s.heap.size q := fun _ h => Or.inr h
  have hFr : Fr kap [0, 5, 20, 21, 22, 23, 24] S S := Fr.rf
  have hl := lv_entry ([.ref pa, .ref b]) (n := 2) (Nat.le_of_ble_eq_true rfl)
  rw [lg_entry_eq]
  generalize (lg_sl ([.ref pa, .ref b]) ++ List.replicate (2 - (lg_sl ([.ref pa, .ref b])).length) Slot.unset).toArray = ls at hl ⊢
  have hl : lv_has ls 2 [(0, .ref pa), (1, .ref b)] := hl
  refine lv_aload_n hx hb dX5_takeBack_0 rfl (lv_at hl 0 rfl) ?_
  obtain ⟨x_1, x_2, hS_pa, hT_x_1, hb_x_2⟩ := hTy.k5 hT_pa
  refine pl_get (ci := 5) (v := .int (nI x_2)) (C := RX5) (T := TX5) (N := 2) hx hb hT iX5 hown hK hW hT_pa.1 hS_pa rfl 1 (by decide) w184 rfl dX5_takeBack_1 ?_
  refine lv_if_le (tgt := 30) hx hb dX5_takeBack_4 (by decide) (fun c_4 => ?_) (fun c_4 => ?_)
  · have c_4 : x_2 ≤ 0 := (nI_leI (a := x_2) (b := 0) (by omega) (by omega)).mp c_4
    exact W.vret hx hb hr (fun t ht h9 => ⟨⟨S, rfl, ⟨hTy, hFr⟩, by rw [ht]; exact hW.1, va_K.moved h9.alike hK, hW.2.1⟩, hW.2.2.F ht⟩) hW.2.2.2.2 dX5_takeBack_30
  · have c_4 : ¬ (x_2 ≤ 0) := fun hh9 => c_4 ((nI_leI (a := x_2) (b := 0) (by omega) (by omega)).mpr hh9)
    refine lv_aload_n hx hb dX5_takeBack_7 rfl (lv_at hl 0 rfl) ?_
    refine lv_dup hx hb dX5_takeBack_8 rfl ?_
    refine pl_get (ci := 5) (v := .int (nI x_2)) (C := RX5) (T := TX5) (N := 2) hx hb hT iX5 hown hK hW hT_pa.1 hS_pa rfl 1 (by decide) w184 rfl dX5_takeBack_9 ?_
    refine lv_iconst (v := 1) hx hb dX5_takeBack_12 (by decide) ?_
    refine lv_isub hx hb dX5_takeBack_13 ?_
    refine lv_topi (fun z_3 ez_3 => ?_)
    obtain rfl : z_3 = nI (x_2 - 1) := ez_3.trans (pk_sub (a := x_2) (b := 1) (by omega))
    refine pl_put (ci := 5) (v := .int (nI (x_2 - 1))) (ty := .int) (C := RX5) (T := TX5) (N := 2) (fs' := [.ref x_1, .int (nI (x_2 - 1))]) hx hb hT iX5 tyX5 tyX5_ok nmX5 hown hK hW hT_pa.1 hS_pa rfl 1 (by decide) w184 rfl (by decide +kernel) rfl rfl (Nat.le_of_ble_eq_true rfl) rfl dX5_takeBack_14 (fun H locs S_4 e1 hW => ?_)
    have hTy := hTy.u5 e1 hT_pa ⟨x_1, x_2 - 1, rfl, hT_x_1, (by omega)⟩
    have hFr := uf hFr e1 hT_pa (by decide) (by decide)
    have hS_pa := us e1
    refine lv_aload_n hx hb dX5_takeBack_17 rfl (lv_at hl 1 rfl) ?_
    refine lv_aload_n hx hb dX5_takeBack_18 rfl (lv_at hl 0 rfl) ?_
    refine pl_get (ci := 5) (v := .ref x_1) (C := RX5) (T := TX5) (N := 2) hx hb hT iX5 hown hK hW hT_pa.1 hS_pa rfl 0 (by decide) w183 rfl dX5_takeBack_19 ?_
    refine lv_aload_n hx hb dX5_takeBack_22 rfl (lv_at hl 0 rfl) ?_
    refine pl_get (ci := 5) (v := .int (nI (x_2 - 1))) (C := RX5) (T := TX5) (N := 2) hx hb hT iX5 hown hK hW hT_pa.1 hS_pa rfl 1 (by decide) w184 rfl dX5_takeBack_23 ?_
    obtain ⟨f_5, hS_x_1, hi_f_5⟩ := hTy.k28 hT_x_1
    obtain ⟨b_6, hb_b_6, hT_b_6⟩ := hi_f_5 (x_2 - 1) (by omega)
    refine pl_aald hx hb hK hW hT_x_1.1 hS_x_1 (vp_in_nI (n := x_2 - 1) (N := 10) (by omega) (by omega)) (b := b_6) (by show f_5 (nI (x_2 - 1)).toNatClampNeg = _; rw [nI_clamp (by omega)]; exact hb_b_6) dX5_takeBack_26 ?_
    obtain ⟨x_7, x_8, x_9, x_10, x_11, x_12, x_13, x_14, hS_b, hT_x_7, hT_x_8, hT_x_9, hT_x_10, hT_x_11, hT_x_12, hb_x_13⟩ := hTy.k0 hT_b
    refine pl_callv (va_runV (As := [.ref b_6]) (rest := []) ⟨hx, hb, hml, hown, hT⟩ (s_copyFrom0 l dC dI cy L kap pr S_4 H.size b b_6 hTy hT_b hT_b_6) (cwV 1 hT (gV w623 w624 w625 w5 w626) rfl rfl rfl (by decide +kernel) ⟨(Nat.le_of_ble_eq_true rfl), (Nat.le_of_ble_eq_true rfl)⟩) ⟨pcN.blind, pl_recv hK hW hT_b.1 hS_b rfl, pcN.pre hW.1 hK hW.2.1 hN (fun q h => absurd h List.not_mem_nil)⟩ rfl rfl hl.1 rfl (lv_room (Nat.le_of_ble_eq_true rfl)) dX5_takeBack_27 ⟨(Nat.le_of_ble_eq_true rfl), (Nat.le_of_ble_eq_true rfl)⟩) hW hA0 hA (fun S_15 H locs hrel hW => ?_)
    obtain ⟨hTy, hF1⟩ := hrel
    have hFr := hFr.tr hF1 (by decide)
    have hS_pa := hF1.at hT_pa (by decide) hS_pa
    have hS_x_1 := hF1.at hT_x_1 (by decide) hS_x_1
    exact W.vret hx hb hr (fun t ht h9 => ⟨⟨S_15, rfl, ⟨hTy, hFr⟩, by rw [ht]; exact hW.1, va_K.moved h9.alike hK, hW.2.1⟩, hW.2.2.F ht⟩) hW.2.2.2.2 dX5_takeBack_30

set_option maxHeartbeats 4000000 in
set_option maxRecDepth 100000 in
theorem s_sumOut29 (l : Launch) (dC : Nat → ClassId) (dI : Nat → Nat → Nat) (cy : Nat → ClassId) (L : List Nat) (kap : Nat → Nat) (pr : Pr) (S : Nat → va_E) (sz : Nat) (q : Nat) (a : Nat) (hTy : Ty cy L kap pr S) (hT_q : TK L kap q 29) (hb_a : a < 8) : Met l yX11_sumOut (wT yX11_sumOut cX11_sumOut 5 (some .long)) ({ frames := 1, cells := 0, slots := 0, locals := 21 }) (pcN dC dI [.ref q, .int (nI a)] sz (va_pl L S) (cyT cy) NLs []) (vp_Sl (fun r => True)) 0 0 (fun _ => False) := by
  refine Met.ofW (cc := cX11_sumOut) (maxL := 5) (ret := (some .long)) (by decide) rfl ?_
  intro p e s m args below meth c s₁ B hml hv
  obtain ⟨rfl, hsz, hP, hK, hD0, hN, -⟩ := hv
  have hx := B.exec
  have hb := B.bytes
  have hr := B.returns
  have hT : ∀ wd ∈ TB, wd.before [.ref q, .int (nI a)].toArray s = true := fun wd h => atoms_spec (ws := wT yX11_sumOut cX11_sumOut 5 (some .long)) B.pre wd (List.mem_cons_of_mem _ h)
  have hown : s.vm.findClass RX11 = some m.cls := findClass_of_methodNamed B.named
  have hlocks := B.notSynchronized
  subst hsz
  have hW : PW dC dI L (AL L s.heap.size) s.heap S s.heap [] := ⟨hP, pl_self hD0, va_S.rf⟩
  have hFr : Fr kap [] S S := Fr.rf
  have hl := lv_entry ([.ref q, .int (nI a)]) (n := 5) (Nat.le_of_ble_eq_true rfl)
  rw [lg_entry_eq]
  generalize (lg_sl ([.ref q, .int (nI a)]) ++ List.replicate (5 - (lg_sl ([.ref q, .int (nI a)])).length) Slot.unset).toArray = ls at hl ⊢
  have hl : lv_has ls 5 [(0, .ref q), (1, .int (nI a))] := hl
  refine lv_lconst (v := 0) hx hb dX11_sumOut_0 (by decide) ?_
  refine lv_lstore_n (lv' := [(2, .long 0), (0, .ref q), (1, .int (nI a))]) hx hb dX11_sumOut_1 rfl hl (by decide) rfl (fun ls hl => ?_)
  refine lv_iconst (v := 0) hx hb dX11_sumOut_2 (by decide) ?_
  refine lv_istore (lv' := [(4, .int 0), (2, .long 0), (0, .ref q), (1, .int (nI a))]) hx hb dX11_sumOut_3 hl (by decide) rfl (fun ls hl => ?_)
  have loop : ∀ (fuel : Nat) (i : Nat) (sm : Int64) (ls : Array Slot), 9 - i < fuel → (i ≤ 8) → lv_has ls 5 [(4, .int (nI i)), (2, .long sm), (0, .ref q), (1, .int (nI a))] → W p l e (headSpec (wT yX11_sumOut cX11_sumOut 5 (some .long)) { frames := 1, cells := 0, slots := 0, locals := 21 }).room s m [.ref q, .int (nI a)].toArray below meth c s.heap [] 0 0 (MQ below (vp_Sl (fun r => True)) [.ref q, .int (nI a)].toArray s 0 0 (fun _ => False)) (F0 m 5 ls []) := by
    intro fuel
    induction fuel with
    | zero => intro i sm ls h; exact absurd h (Nat.not_lt_zero _)
    | succ fu5 ih5 =>
      intro i sm ls hm5 hb_i hl
      refine lv_iload hx hb dX11_sumOut_5 (lv_at hl 0 rfl) ?_
      refine lv_bipush (v := 8) hx hb dX11_sumOut_7 (by decide) ?_
      refine lv_icmp_ge (tgt := 29) hx hb dX11_sumOut_9 (by decide) (fun c_9 => ?_) (fun c_9 => ?_)
      · have c_9 : 8 ≤ i := (nI_leI (a := 8) (b := i) (by omega) (by omega)).mp c_9
        refine lv_lload_n hx hb dX11_sumOut_29 rfl (lv_at hl 1 rfl) ?_
        exact W.lret (v := sm) hx hb hr (fun t ht h9 => ⟨sm, rfl, trivial, ht⟩) (fun q h => by cases h) dX11_sumOut_30
      · have c_9 : ¬ (8 ≤ i) := fun hh9 => c_9 ((nI_leI (a := 8) (b := i) (by omega) (by omega)).mpr hh9)
        refine lv_lload_n hx hb dX11_sumOut_12 rfl (lv_at hl 1 rfl) ?_
        refine lv_aload_n hx hb dX11_sumOut_13 rfl (lv_at hl 2 rfl) ?_
        refine lv_iload_n hx hb dX11_sumOut_14 rfl (lv_at hl 3 rfl) ?_
        refine lv_iload hx hb dX11_sumOut_15 (lv_at hl 0 rfl) ?_
        refine vp_callSi (va_Run.run (va_runS (As := [.int (nI a), .int (nI i)]) (rest := [.ref q, .long sm]) ⟨hx, hb, hml, hown, hT⟩ (s_cell l dC dI s.heap.size a i (by omega) (by omega)) (va_cwS 2 hT (gS w660 w576 w1 w577) rfl rfl rfl (by decide +kernel) ⟨(Nat.le_of_ble_eq_true rfl), (Nat.le_of_ble_eq_true rfl)⟩) ⟨pcW.blind, pcW.pre (va_P0 _ _ _) (hK.sub (tys' := []) [] rfl) (va_D0 (fun _ => True))⟩ rfl rfl hl.1 rfl (lv_room (Nat.le_of_ble_eq_true rfl)) dX11_sumOut_17 ⟨(Nat.le_of_ble_eq_true rfl), (Nat.le_of_ble_eq_true rfl)⟩)) (fun r_1 hr_1 => ?_)
        obtain rfl : r_1 = nI (a * 8 + i) := hr_1
        obtain ⟨f_2, hS_q⟩ := hTy.k29 hT_q
        refine pl_lald hx hb hK hW hT_q.1 hS_q (vp_in_nI (n := a * 8 + i) (N := 64) (by omega) (by omega)) dX11_sumOut_20 ?_
        refine lv_topl (fun y_3 ey_3 => ?_)
        refine lv_ladd hx hb dX11_sumOut_21 ?_
        refine lv_topl (fun z_4 ez_4 => ?_)
        refine lv_lstore_n (lv' := [(2, .long z_4), (4, .int (nI i)), (0, .ref q), (1, .int (nI a))]) hx hb dX11_sumOut_22 rfl hl (by decide) rfl (fun ls hl => ?_)
        refine lv_iinc (v := nI (i + 1)) (lv' := [(4, .int (nI (i + 1))), (2, .long z_4), (0, .ref q), (1, .int (nI a))]) hx hb dX11_sumOut_23 hl (k := 1) rfl (nI_add (i) 1) (by decide) rfl (fun ls hl => ?_)
        refine lv_goto (tgt := 5) hx hb dX11_sumOut_26 (by decide) ?_
        exact ih5 (i + 1) z_4 ls (by omega) (by omega) (lv_sub hl [0, 1, 2, 3] rfl)
  exact loop ((9 - 0) + 1) 0 0 ls (Nat.lt_succ_self _) (by omega) (lv_sub hl [0, 1, 2, 3] rfl)

set_option maxHeartbeats 4000000 in
set_option maxRecDepth 100000 in
theorem s_sumIn29 (l : Launch) (dC : Nat → ClassId) (dI : Nat → Nat → Nat) (cy : Nat → ClassId) (L : List Nat) (kap : Nat → Nat) (pr : Pr) (S : Nat → va_E) (sz : Nat) (q : Nat) (a : Nat) (hTy : Ty cy L kap pr S) (hT_q : TK L kap q 29) (hb_a : a < 8) : Met l yX11_sumIn (wT yX11_sumIn cX11_sumIn 5 (some .long)) ({ frames := 1, cells := 0, slots := 0, locals := 21 }) (pcN dC dI [.ref q, .int (nI a)] sz (va_pl L S) (cyT cy) NLs []) (vp_Sl (fun r => True)) 0 0 (fun _ => False) := by
  refine Met.ofW (cc := cX11_sumIn) (maxL := 5) (ret := (some .long)) (by decide) rfl ?_
  intro p e s m args below meth c s₁ B hml hv
  obtain ⟨rfl, hsz, hP, hK, hD0, hN, -⟩ := hv
  have hx := B.exec
  have hb := B.bytes
  have hr := B.returns
  have hT : ∀ wd ∈ TB, wd.before [.ref q, .int (nI a)].toArray s = true := fun wd h => atoms_spec (ws := wT yX11_sumIn cX11_sumIn 5 (some .long)) B.pre wd (List.mem_cons_of_mem _ h)
  have hown : s.vm.findClass RX11 = some m.cls := findClass_of_methodNamed B.named
  have hlocks := B.notSynchronized
  subst hsz
  have hW : PW dC dI L (AL L s.heap.size) s.heap S s.heap [] := ⟨hP, pl_self hD0, va_S.rf⟩
  have hFr : Fr kap [] S S := Fr.rf
  have hl := lv_entry ([.ref q, .int (nI a)]) (n := 5) (Nat.le_of_ble_eq_true rfl)
  rw [lg_entry_eq]
  generalize (lg_sl ([.ref q, .int (nI a)]) ++ List.replicate (5 - (lg_sl ([.ref q, .int (nI a)])).length) Slot.unset).toArray = ls at hl ⊢
  have hl : lv_has ls 5 [(0, .ref q), (1, .int (nI a))] := hl
  refine lv_lconst (v := 0) hx hb dX11_sumIn_0 (by decide) ?_
  refine lv_lstore_n (lv' := [(2, .long 0), (0, .ref q), (1, .int (nI a))]) hx hb dX11_sumIn_1 rfl hl (by decide) rfl (fun ls hl => ?_)
  refine lv_iconst (v := 0) hx hb dX11_sumIn_2 (by decide) ?_
  refine lv_istore (lv' := [(4, .int 0), (2, .long 0), (0, .ref q), (1, .int (nI a))]) hx hb dX11_sumIn_3 hl (by decide) rfl (fun ls hl => ?_)
  have loop : ∀ (fuel : Nat) (i : Nat) (sm : Int64) (ls : Array Slot), 9 - i < fuel → (i ≤ 8) → lv_has ls 5 [(4, .int (nI i)), (2, .long sm), (0, .ref q), (1, .int (nI a))] → W p l e (headSpec (wT yX11_sumIn cX11_sumIn 5 (some .long)) { frames := 1, cells := 0, slots := 0, locals := 21 }).room s m [.ref q, .int (nI a)].toArray below meth c s.heap [] 0 0 (MQ below (vp_Sl (fun r => True)) [.ref q, .int (nI a)].toArray s 0 0 (fun _ => False)) (F0 m 5 ls []) := by
    intro fuel
    induction fuel with
    | zero => intro i sm ls h; exact absurd h (Nat.not_lt_zero _)
    | succ fu5 ih5 =>
      intro i sm ls hm5 hb_i hl
      refine lv_iload hx hb dX11_sumIn_5 (lv_at hl 0 rfl) ?_
      refine lv_bipush (v := 8) hx hb dX11_sumIn_7 (by decide) ?_
      refine lv_icmp_ge (tgt := 29) hx hb dX11_sumIn_9 (by decide) (fun c_9 => ?_) (fun c_9 => ?_)
      · have c_9 : 8 ≤ i := (nI_leI (a := 8) (b := i) (by omega) (by omega)).mp c_9
        refine lv_lload_n hx hb dX11_sumIn_29 rfl (lv_at hl 1 rfl) ?_
        exact W.lret (v := sm) hx hb hr (fun t ht h9 => ⟨sm, rfl, trivial, ht⟩) (fun q h => by cases h) dX11_sumIn_30
      · have c_9 : ¬ (8 ≤ i) := fun hh9 => c_9 ((nI_leI (a := 8) (b := i) (by omega) (by omega)).mpr hh9)
        refine lv_lload_n hx hb dX11_sumIn_12 rfl (lv_at hl 1 rfl) ?_
        refine lv_aload_n hx hb dX11_sumIn_13 rfl (lv_at hl 2 rfl) ?_
        refine lv_iload hx hb dX11_sumIn_14 (lv_at hl 0 rfl) ?_
        refine lv_iload_n hx hb dX11_sumIn_16 rfl (lv_at hl 3 rfl) ?_
        refine vp_callSi (va_Run.run (va_runS (As := [.int (nI i), .int (nI a)]) (rest := [.ref q, .long sm]) ⟨hx, hb, hml, hown, hT⟩ (s_cell l dC dI s.heap.size i a (by omega) (by omega)) (va_cwS 2 hT (gS w660 w576 w1 w577) rfl rfl rfl (by decide +kernel) ⟨(Nat.le_of_ble_eq_true rfl), (Nat.le_of_ble_eq_true rfl)⟩) ⟨pcW.blind, pcW.pre (va_P0 _ _ _) (hK.sub (tys' := []) [] rfl) (va_D0 (fun _ => True))⟩ rfl rfl hl.1 rfl (lv_room (Nat.le_of_ble_eq_true rfl)) dX11_sumIn_17 ⟨(Nat.le_of_ble_eq_true rfl), (Nat.le_of_ble_eq_true rfl)⟩)) (fun r_1 hr_1 => ?_)
        obtain rfl : r_1 = nI (i * 8 + a) := hr_1
        obtain ⟨f_2, hS_q⟩ := hTy.k29 hT_q
        refine pl_lald hx hb hK hW hT_q.1 hS_q (vp_in_nI (n := i * 8 + a) (N := 64) (by omega) (by omega)) dX11_sumIn_20 ?_
        refine lv_topl (fun y_3 ey_3 => ?_)
        refine lv_ladd hx hb dX11_sumIn_21 ?_
        refine lv_topl (fun z_4 ez_4 => ?_)
        refine lv_lstore_n (lv' := [(2, .long z_4), (4, .int (nI i)), (0, .ref q), (1, .int (nI a))]) hx hb dX11_sumIn_22 rfl hl (by decide) rfl (fun ls hl => ?_)
        refine lv_iinc (v := nI (i + 1)) (lv' := [(4, .int (nI (i + 1))), (2, .long z_4), (0, .ref q), (1, .int (nI a))]) hx hb dX11_sumIn_23 hl (k := 1) rfl (nI_add (i) 1) (by decide) rfl (fun ls hl => ?_)
        refine lv_goto (tgt := 5) hx hb dX11_sumIn_26 (by decide) ?_
        exact ih5 (i + 1) z_4 ls (by omega) (by omega) (lv_sub hl [0, 1, 2, 3] rfl)
  exact loop ((9 - 0) + 1) 0 0 ls (Nat.lt_succ_self _) (by omega) (lv_sub hl [0, 1, 2, 3] rfl)

set_option maxHeartbeats 4000000 in
set_option maxRecDepth 100000 in
theorem s_above29 (l : Launch) (dC : Nat → ClassId) (dI : Nat → Nat → Nat) (cy : Nat → ClassId) (L : List Nat) (kap : Nat → Nat) (pr : Pr) (S : Nat → va_E) (sz : Nat) (q : Nat) (hTy : Ty cy L kap pr S) (hT_q : TK L kap q 29) : Met l yX11_cellsAboveZero (wT yX11_cellsAboveZero cX11_cellsAboveZero 3 (some .int)) ({ frames := 0, cells := 0, slots := 0, locals := 0 }) (pcN dC dI [.ref q] sz (va_pl L S) (cyT cy) NLs []) (vp_Si (fun r => True)) 0 0 (fun _ => False) := by
  refine Met.ofW (cc := cX11_cellsAboveZero) (maxL := 3) (ret := (some .int)) (by decide) rfl ?_
  intro p e s m args below meth c s₁ B hml hv
  obtain ⟨rfl, hsz, hP, hK, hD0, hN, -⟩ := hv
  have hx := B.exec
  have hb := B.bytes
  have hr := B.returns
  have hT : ∀ wd ∈ TB, wd.before [.ref q].toArray s = true := fun wd h => atoms_spec (ws := wT yX11_cellsAboveZero cX11_cellsAboveZero 3 (some .int)) B.pre wd (List.mem_cons_of_mem _ h)
  have hown : s.vm.findClass RX11 = some m.cls := findClass_of_methodNamed B.named
  have hlocks := B.notSynchronized
  subst hsz
  have hW : PW dC dI L (AL L s.heap.size) s.heap S s.heap [] := ⟨hP, pl_self hD0, va_S.rf⟩
  have hFr : Fr kap [] S S := Fr.rf
  have hl := lv_entry ([.ref q]) (n := 3) (Nat.le_of_ble_eq_true rfl)
  rw [lg_entry_eq]
  generalize (lg_sl ([.ref q]) ++ List.replicate (3 - (lg_sl ([.ref q])).length) Slot.unset).toArray = ls at hl ⊢
  have hl : lv_has ls 3 [(0, .ref q)] := hl
  refine lv_iconst (v := 0) hx hb dX11_cellsAboveZero_0 (by decide) ?_
  refine lv_istore_n (lv' := [(1, .int 0), (0, .ref q)]) hx hb dX11_cellsAboveZero_1 rfl hl (by decide) rfl (fun ls hl => ?_)
  refine lv_iconst (v := 0) hx hb dX11_cellsAboveZero_2 (by decide) ?_
  refine lv_istore_n (lv' := [(2, .int 0), (1, .int 0), (0, .ref q)]) hx hb dX11_cellsAboveZero_3 rfl hl (by decide) rfl (fun ls hl => ?_)
  have loop : ∀ (fuel : Nat) (i : Nat) (fd : Int32) (ls : Array Slot), 65 - i < fuel → (i ≤ 64) → lv_has ls 3 [(2, .int (nI i)), (1, .int fd), (0, .ref q)] → W p l e (headSpec (wT yX11_cellsAboveZero cX11_cellsAboveZero 3 (some .int)) { frames := 0, cells := 0, slots := 0, locals := 0 }).room s m [.ref q].toArray below meth c s.heap [] 0 0 (MQ below (vp_Si (fun r => True)) [.ref q].toArray s 0 0 (fun _ => False)) (F0 m 4 ls []) := by
    intro fuel
    induction fuel with
    | zero => intro i fd ls h; exact absurd h (Nat.not_lt_zero _)
    | succ fu4 ih4 =>
      intro i fd ls hm4 hb_i hl
      refine lv_iload_n hx hb dX11_cellsAboveZero_4 rfl (lv_at hl 0 rfl) ?_
      refine lv_bipush (v := 64) hx hb dX11_cellsAboveZero_5 (by decide) ?_
      refine lv_icmp_ge (tgt := 27) hx hb dX11_cellsAboveZero_7 (by decide) (fun c_7 => ?_) (fun c_7 => ?_)
      · have c_7 : 64 ≤ i := (nI_leI (a := 64) (b := i) (by omega) (by omega)).mp c_7
        refine lv_iload_n hx hb dX11_cellsAboveZero_27 rfl (lv_at hl 1 rfl) ?_
        exact W.iret (v := fd) hx hb hr (fun t ht h9 => ⟨fd, rfl, trivial, ht⟩) (fun q h => by cases h) dX11_cellsAboveZero_28
      · have c_7 : ¬ (64 ≤ i) := fun hh9 => c_7 ((nI_leI (a := 64) (b := i) (by omega) (by omega)).mpr hh9)
        refine lv_aload_n hx hb dX11_cellsAboveZero_10 rfl (lv_at hl 2 rfl) ?_
        refine lv_iload_n hx hb dX11_cellsAboveZero_11 rfl (lv_at hl 0 rfl) ?_
        obtain ⟨f_1, hS_q⟩ := hTy.k29 hT_q
        refine pl_lald hx hb hK hW hT_q.1 hS_q (vp_in_nI (n := i) (N := 64) (by omega) (by omega)) dX11_cellsAboveZero_12 ?_
        refine lv_topl (fun y_2 ey_2 => ?_)
        refine lv_lconst (v := 0) hx hb dX11_cellsAboveZero_13 (by decide) ?_
        refine W.lcmp hx hb dX11_cellsAboveZero_14 ?_
        refine lv_if_le (tgt := 21) hx hb dX11_cellsAboveZero_15 (by decide) (fun c_15 => ?_) (fun c_15 => ?_)
        · refine lv_iinc (v := nI (i + 1)) (lv' := [(2, .int (nI (i + 1))), (1, .int fd), (0, .ref q)]) hx hb dX11_cellsAboveZero_21 hl (k := 0) rfl (nI_add (i) 1) (by decide) rfl (fun ls hl => ?_)
          refine lv_goto (tgt := 4) hx hb dX11_cellsAboveZero_24 (by decide) ?_
          exact ih4 (i + 1) fd ls (by omega) (by omega) (lv_sub hl [0, 1, 2] rfl)
        · obtain ⟨u_3, eu_3⟩ : ∃ y : Int32, y = fd + Int32.ofInt (1) := ⟨_, rfl⟩
          refine lv_iinc (v := u_3) (lv' := [(1, .int u_3), (2, .int (nI i)), (0, .ref q)]) hx hb dX11_cellsAboveZero_18 hl (k := 1) rfl eu_3.symm (by decide) rfl (fun ls hl => ?_)
          refine lv_iinc (v := nI (i + 1)) (lv' := [(2, .int (nI (i + 1))), (1, .int u_3), (0, .ref q)]) hx hb dX11_cellsAboveZero_21 hl (k := 1) rfl (nI_add (i) 1) (by decide) rfl (fun ls hl => ?_)
          refine lv_goto (tgt := 4) hx hb dX11_cellsAboveZero_24 (by decide) ?_
          exact ih4 (i + 1) u_3 ls (by omega) (by omega) (lv_sub hl [0, 1, 2] rfl)
  exact loop ((65 - 0) + 1) 0 0 ls (Nat.lt_succ_self _) (by omega) (lv_sub hl [0, 1, 2] rfl)

set_option maxHeartbeats 4000000 in
set_option maxRecDepth 100000 in
theorem s_sumOut43 (l : Launch) (dC : Nat → ClassId) (dI : Nat → Nat → Nat) (cy : Nat → ClassId) (L : List Nat) (kap : Nat → Nat) (pr : Pr) (S : Nat → va_E) (sz : Nat) (q : Nat) (a : Nat) (hTy : Ty cy L kap pr S) (hT_q : TK L kap q 43) (hb_a : a < 8) : Met l yX11_sumOut (wT yX11_sumOut cX11_sumOut 5 (some .long)) ({ frames := 1, cells := 0, slots := 0, locals := 21 }) (pcN dC dI [.ref q, .int (nI a)] sz (va_pl L S) (cyT cy) NLs []) (vp_Sl (fun r => True)) 0 0 (fun _ => False) := by
  refine Met.ofW (cc := cX11_sumOut) (maxL := 5) (ret := (some .long)) (by decide) rfl ?_
  intro p e s m args below meth c s₁ B hml hv
  obtain ⟨rfl, hsz, hP, hK, hD0, hN, -⟩ := hv
  have hx := B.exec
  have hb := B.bytes
  have hr := B.returns
  have hT : ∀ wd ∈ TB, wd.before [.ref q, .int (nI a)].toArray s = true := fun wd h => atoms_spec (ws := wT yX11_sumOut cX11_sumOut 5 (some .long)) B.pre wd (List.mem_cons_of_mem _ h)
  have hown : s.vm.findClass RX11 = some m.cls := findClass_of_methodNamed B.named
  have hlocks := B.notSynchronized
  subst hsz
  have hW : PW dC dI L (AL L s.heap.size) s.heap S s.heap [] := ⟨hP, pl_self hD0, va_S.rf⟩
  have hFr : Fr kap [] S S := Fr.rf
  have hl := lv_entry ([.ref q, .int (nI a)]) (n := 5) (Nat.le_of_ble_eq_true rfl)
  rw [lg_entry_eq]
  generalize (lg_sl ([.ref q, .int (nI a)]) ++ List.replicate (5 - (lg_sl ([.ref q, .int (nI a)])).length) Slot.unset).toArray = ls at hl ⊢
  have hl : lv_has ls 5 [(0, .ref q), (1, .int (nI a))] := hl
  refine lv_lconst (v := 0) hx hb dX11_sumOut_0 (by decide) ?_
  refine lv_lstore_n (lv' := [(2, .long 0), (0, .ref q), (1, .int (nI a))]) hx hb dX11_sumOut_1 rfl hl (by decide) rfl (fun ls hl => ?_)
  refine lv_iconst (v := 0) hx hb dX11_sumOut_2 (by decide) ?_
  refine lv_istore (lv' := [(4, .int 0), (2, .long 0), (0, .ref q), (1, .int (nI a))]) hx hb dX11_sumOut_3 hl (by decide) rfl (fun ls hl => ?_)
  have loop : ∀ (fuel : Nat) (i : Nat) (sm : Int64) (ls : Array Slot), 9 - i < fuel → (i ≤ 8) → lv_has ls 5 [(4, .int (nI i)), (2, .long sm), (0, .ref q), (1, .int (nI a))] → W p l e (headSpec (wT yX11_sumOut cX11_sumOut 5 (some .long)) { frames := 1, cells := 0, slots := 0, locals := 21 }).room s m [.ref q, .int (nI a)].toArray below meth c s.heap [] 0 0 (MQ below (vp_Sl (fun r => True)) [.ref q, .int (nI a)].toArray s 0 0 (fun _ => False)) (F0 m 5 ls []) := by
    intro fuel
    induction fuel with
    | zero => intro i sm ls h; exact absurd h (Nat.not_lt_zero _)
    | succ fu5 ih5 =>
      intro i sm ls hm5 hb_i hl
      refine lv_iload hx hb dX11_sumOut_5 (lv_at hl 0 rfl) ?_
      refine lv_bipush (v := 8) hx hb dX11_sumOut_7 (by decide) ?_
      refine lv_icmp_ge (tgt := 29) hx hb dX11_sumOut_9 (by decide) (fun c_9 => ?_) (fun c_9 => ?_)
      · have c_9 : 8 ≤ i := (nI_leI (a := 8) (b := i) (by omega) (by omega)).mp c_9
        refine lv_lload_n hx hb dX11_sumOut_29 rfl (lv_at hl 1 rfl) ?_
        exact W.lret (v := sm) hx hb hr (fun t ht h9 => ⟨sm, rfl, trivial, ht⟩) (fun q h => by cases h) dX11_sumOut_30
      · have c_9 : ¬ (8 ≤ i) := fun hh9 => c_9 ((nI_leI (a := 8) (b := i) (by omega) (by omega)).mpr hh9)
        refine lv_lload_n hx hb dX11_sumOut_12 rfl (lv_at hl 1 rfl) ?_
        refine lv_aload_n hx hb dX11_sumOut_13 rfl (lv_at hl 2 rfl) ?_
        refine lv_iload_n hx hb dX11_sumOut_14 rfl (lv_at hl 3 rfl) ?_
        refine lv_iload hx hb dX11_sumOut_15 (lv_at hl 0 rfl) ?_
        refine vp_callSi (va_Run.run (va_runS (As := [.int (nI a), .int (nI i)]) (rest := [.ref q, .long sm]) ⟨hx, hb, hml, hown, hT⟩ (s_cell l dC dI s.heap.size a i (by omega) (by omega)) (va_cwS 2 hT (gS w660 w576 w1 w577) rfl rfl rfl (by decide +kernel) ⟨(Nat.le_of_ble_eq_true rfl), (Nat.le_of_ble_eq_true rfl)⟩) ⟨pcW.blind, pcW.pre (va_P0 _ _ _) (hK.sub (tys' := []) [] rfl) (va_D0 (fun _ => True))⟩ rfl rfl hl.1 rfl (lv_room (Nat.le_of_ble_eq_true rfl)) dX11_sumOut_17 ⟨(Nat.le_of_ble_eq_true rfl), (Nat.le_of_ble_eq_true rfl)⟩)) (fun r_1 hr_1 => ?_)
        obtain rfl : r_1 = nI (a * 8 + i) := hr_1
        obtain ⟨f_2, hS_q⟩ := hTy.k43 hT_q
        refine pl_lald hx hb hK hW hT_q.1 hS_q (vp_in_nI (n := a * 8 + i) (N := 64) (by omega) (by omega)) dX11_sumOut_20 ?_
        refine lv_topl (fun y_3 ey_3 => ?_)
        refine lv_ladd hx hb dX11_sumOut_21 ?_
        refine lv_topl (fun z_4 ez_4 => ?_)
        refine lv_lstore_n (lv' := [(2, .long z_4), (4, .int (nI i)), (0, .ref q), (1, .int (nI a))]) hx hb dX11_sumOut_22 rfl hl (by decide) rfl (fun ls hl => ?_)
        refine lv_iinc (v := nI (i + 1)) (lv' := [(4, .int (nI (i + 1))), (2, .long z_4), (0, .ref q), (1, .int (nI a))]) hx hb dX11_sumOut_23 hl (k := 1) rfl (nI_add (i) 1) (by decide) rfl (fun ls hl => ?_)
        refine lv_goto (tgt := 5) hx hb dX11_sumOut_26 (by decide) ?_
        exact ih5 (i + 1) z_4 ls (by omega) (by omega) (lv_sub hl [0, 1, 2, 3] rfl)
  exact loop ((9 - 0) + 1) 0 0 ls (Nat.lt_succ_self _) (by omega) (lv_sub hl [0, 1, 2, 3] rfl)

set_option maxHeartbeats 4000000 in
set_option maxRecDepth 100000 in
theorem s_sumIn43 (l : Launch) (dC : Nat → ClassId) (dI : Nat → Nat → Nat) (cy : Nat → ClassId) (L : List Nat) (kap : Nat → Nat) (pr : Pr) (S : Nat → va_E) (sz : Nat) (q : Nat) (a : Nat) (hTy : Ty cy L kap pr S) (hT_q : TK L kap q 43) (hb_a : a < 8) : Met l yX11_sumIn (wT yX11_sumIn cX11_sumIn 5 (some .long)) ({ frames := 1, cells := 0, slots := 0, locals := 21 }) (pcN dC dI [.ref q, .int (nI a)] sz (va_pl L S) (cyT cy) NLs []) (vp_Sl (fun r => True)) 0 0 (fun _ => False) := by
  refine Met.ofW (cc := cX11_sumIn) (maxL := 5) (ret := (some .long)) (by decide) rfl ?_
  intro p e s m args below meth c s₁ B hml hv
  obtain ⟨rfl, hsz, hP, hK, hD0, hN, -⟩ := hv
  have hx := B.exec
  have hb := B.bytes
  have hr := B.returns
  have hT : ∀ wd ∈ TB, wd.before [.ref q, .int (nI a)].toArray s = true := fun wd h => atoms_spec (ws := wT yX11_sumIn cX11_sumIn 5 (some .long)) B.pre wd (List.mem_cons_of_mem _ h)
  have hown : s.vm.findClass RX11 = some m.cls := findClass_of_methodNamed B.named
  have hlocks := B.notSynchronized
  subst hsz
  have hW : PW dC dI L (AL L s.heap.size) s.heap S s.heap [] := ⟨hP, pl_self hD0, va_S.rf⟩
  have hFr : Fr kap [] S S := Fr.rf
  have hl := lv_entry ([.ref q, .int (nI a)]) (n := 5) (Nat.le_of_ble_eq_true rfl)
  rw [lg_entry_eq]
  generalize (lg_sl ([.ref q, .int (nI a)]) ++ List.replicate (5 - (lg_sl ([.ref q, .int (nI a)])).length) Slot.unset).toArray = ls at hl ⊢
  have hl : lv_has ls 5 [(0, .ref q), (1, .int (nI a))] := hl
  refine lv_lconst (v := 0) hx hb dX11_sumIn_0 (by decide) ?_
  refine lv_lstore_n (lv' := [(2, .long 0), (0, .ref q), (1, .int (nI a))]) hx hb dX11_sumIn_1 rfl hl (by decide) rfl (fun ls hl => ?_)
  refine lv_iconst (v := 0) hx hb dX11_sumIn_2 (by decide) ?_
  refine lv_istore (lv' := [(4, .int 0), (2, .long 0), (0, .ref q), (1, .int (nI a))]) hx hb dX11_sumIn_3 hl (by decide) rfl (fun ls hl => ?_)
  have loop : ∀ (fuel : Nat) (i : Nat) (sm : Int64) (ls : Array Slot), 9 - i < fuel → (i ≤ 8) → lv_has ls 5 [(4, .int (nI i)), (2, .long sm), (0, .ref q), (1, .int (nI a))] → W p l e (headSpec (wT yX11_sumIn cX11_sumIn 5 (some .long)) { frames := 1, cells := 0, slots := 0, locals := 21 }).room s m [.ref q, .int (nI a)].toArray below meth c s.heap [] 0 0 (MQ below (vp_Sl (fun r => True)) [.ref q, .int (nI a)].toArray s 0 0 (fun _ => False)) (F0 m 5 ls []) := by
    intro fuel
    induction fuel with
    | zero => intro i sm ls h; exact absurd h (Nat.not_lt_zero _)
    | succ fu5 ih5 =>
      intro i sm ls hm5 hb_i hl
      refine lv_iload hx hb dX11_sumIn_5 (lv_at hl 0 rfl) ?_
      refine lv_bipush (v := 8) hx hb dX11_sumIn_7 (by decide) ?_
      refine lv_icmp_ge (tgt := 29) hx hb dX11_sumIn_9 (by decide) (fun c_9 => ?_) (fun c_9 => ?_)
      · have c_9 : 8 ≤ i := (nI_leI (a := 8) (b := i) (by omega) (by omega)).mp c_9
        refine lv_lload_n hx hb dX11_sumIn_29 rfl (lv_at hl 1 rfl) ?_
        exact W.lret (v := sm) hx hb hr (fun t ht h9 => ⟨sm, rfl, trivial, ht⟩) (fun q h => by cases h) dX11_sumIn_30
      · have c_9 : ¬ (8 ≤ i) := fun hh9 => c_9 ((nI_leI (a := 8) (b := i) (by omega) (by omega)).mpr hh9)
        refine lv_lload_n hx hb dX11_sumIn_12 rfl (lv_at hl 1 rfl) ?_
        refine lv_aload_n hx hb dX11_sumIn_13 rfl (lv_at hl 2 rfl) ?_
        refine lv_iload hx hb dX11_sumIn_14 (lv_at hl 0 rfl) ?_
        refine lv_iload_n hx hb dX11_sumIn_16 rfl (lv_at hl 3 rfl) ?_
        refine vp_callSi (va_Run.run (va_runS (As := [.int (nI i), .int (nI a)]) (rest := [.ref q, .long sm]) ⟨hx, hb, hml, hown, hT⟩ (s_cell l dC dI s.heap.size i a (by omega) (by omega)) (va_cwS 2 hT (gS w660 w576 w1 w577) rfl rfl rfl (by decide +kernel) ⟨(Nat.le_of_ble_eq_true rfl), (Nat.le_of_ble_eq_true rfl)⟩) ⟨pcW.blind, pcW.pre (va_P0 _ _ _) (hK.sub (tys' := []) [] rfl) (va_D0 (fun _ => True))⟩ rfl rfl hl.1 rfl (lv_room (Nat.le_of_ble_eq_true rfl)) dX11_sumIn_17 ⟨(Nat.le_of_ble_eq_true rfl), (Nat.le_of_ble_eq_true rfl)⟩)) (fun r_1 hr_1 => ?_)
        obtain rfl : r_1 = nI (i * 8 + a) := hr_1
        obtain ⟨f_2, hS_q⟩ := hTy.k43 hT_q
        refine pl_lald hx hb hK hW hT_q.1 hS_q (vp_in_nI (n := i * 8 + a) (N := 64) (by omega) (by omega)) dX11_sumIn_20 ?_
        refine lv_topl (fun y_3 ey_3 => ?_)
        refine lv_ladd hx hb dX11_sumIn_21 ?_
        refine lv_topl (fun z_4 ez_4 => ?_)
        refine lv_lstore_n (lv' := [(2, .long z_4), (4, .int (nI i)), (0, .ref q), (1, .int (nI a))]) hx hb dX11_sumIn_22 rfl hl (by decide) rfl (fun ls hl => ?_)
        refine lv_iinc (v := nI (i + 1)) (lv' := [(4, .int (nI (i + 1))), (2, .long z_4), (0, .ref q), (1, .int (nI a))]) hx hb dX11_sumIn_23 hl (k := 1) rfl (nI_add (i) 1) (by decide) rfl (fun ls hl => ?_)
        refine lv_goto (tgt := 5) hx hb dX11_sumIn_26 (by decide) ?_
        exact ih5 (i + 1) z_4 ls (by omega) (by omega) (lv_sub hl [0, 1, 2, 3] rfl)
  exact loop ((9 - 0) + 1) 0 0 ls (Nat.lt_succ_self _) (by omega) (lv_sub hl [0, 1, 2, 3] rfl)

set_option maxHeartbeats 4000000 in
set_option maxRecDepth 100000 in
theorem s_above43 (l : Launch) (dC : Nat → ClassId) (dI : Nat → Nat → Nat) (cy : Nat → ClassId) (L : List Nat) (kap : Nat → Nat) (pr : Pr) (S : Nat → va_E) (sz : Nat) (q : Nat) (hTy : Ty cy L kap pr S) (hT_q : TK L kap q 43) : Met l yX11_cellsAboveZero (wT yX11_cellsAboveZero cX11_cellsAboveZero 3 (some .int)) ({ frames := 0, cells := 0, slots := 0, locals := 0 }) (pcN dC dI [.ref q] sz (va_pl L S) (cyT cy) NLs []) (vp_Si (fun r => True)) 0 0 (fun _ => False) := by
  refine Met.ofW (cc := cX11_cellsAboveZero) (maxL := 3) (ret := (some .int)) (by decide) rfl ?_
  intro p e s m args below meth c s₁ B hml hv
  obtain ⟨rfl, hsz, hP, hK, hD0, hN, -⟩ := hv
  have hx := B.exec
  have hb := B.bytes
  have hr := B.returns
  have hT : ∀ wd ∈ TB, wd.before [.ref q].toArray s = true := fun wd h => atoms_spec (ws := wT yX11_cellsAboveZero cX11_cellsAboveZero 3 (some .int)) B.pre wd (List.mem_cons_of_mem _ h)
  have hown : s.vm.findClass RX11 = some m.cls := findClass_of_methodNamed B.named
  have hlocks := B.notSynchronized
  subst hsz
  have hW : PW dC dI L (AL L s.heap.size) s.heap S s.heap [] := ⟨hP, pl_self hD0, va_S.rf⟩
  have hFr : Fr kap [] S S := Fr.rf
  have hl := lv_entry ([.ref q]) (n := 3) (Nat.le_of_ble_eq_true rfl)
  rw [lg_entry_eq]
  generalize (lg_sl ([.ref q]) ++ List.replicate (3 - (lg_sl ([.ref q])).length) Slot.unset).toArray = ls at hl ⊢
  have hl : lv_has ls 3 [(0, .ref q)] := hl
  refine lv_iconst (v := 0) hx hb dX11_cellsAboveZero_0 (by decide) ?_
  refine lv_istore_n (lv' := [(1, .int 0), (0, .ref q)]) hx hb dX11_cellsAboveZero_1 rfl hl (by decide) rfl (fun ls hl => ?_)
  refine lv_iconst (v := 0) hx hb dX11_cellsAboveZero_2 (by decide) ?_
  refine lv_istore_n (lv' := [(2, .int 0), (1, .int 0), (0, .ref q)]) hx hb dX11_cellsAboveZero_3 rfl hl (by decide) rfl (fun ls hl => ?_)
  have loop : ∀ (fuel : Nat) (i : Nat) (fd : Int32) (ls : Array Slot), 65 - i < fuel → (i ≤ 64) → lv_has ls 3 [(2, .int (nI i)), (1, .int fd), (0, .ref q)] → W p l e (headSpec (wT yX11_cellsAboveZero cX11_cellsAboveZero 3 (some .int)) { frames := 0, cells := 0, slots := 0, locals := 0 }).room s m [.ref q].toArray below meth c s.heap [] 0 0 (MQ below (vp_Si (fun r => True)) [.ref q].toArray s 0 0 (fun _ => False)) (F0 m 4 ls []) := by
    intro fuel
    induction fuel with
    | zero => intro i fd ls h; exact absurd h (Nat.not_lt_zero _)
    | succ fu4 ih4 =>
      intro i fd ls hm4 hb_i hl
      refine lv_iload_n hx hb dX11_cellsAboveZero_4 rfl (lv_at hl 0 rfl) ?_
      refine lv_bipush (v := 64) hx hb dX11_cellsAboveZero_5 (by decide) ?_
      refine lv_icmp_ge (tgt := 27) hx hb dX11_cellsAboveZero_7 (by decide) (fun c_7 => ?_) (fun c_7 => ?_)
      · have c_7 : 64 ≤ i := (nI_leI (a := 64) (b := i) (by omega) (by omega)).mp c_7
        refine lv_iload_n hx hb dX11_cellsAboveZero_27 rfl (lv_at hl 1 rfl) ?_
        exact W.iret (v := fd) hx hb hr (fun t ht h9 => ⟨fd, rfl, trivial, ht⟩) (fun q h => by cases h) dX11_cellsAboveZero_28
      · have c_7 : ¬ (64 ≤ i) := fun hh9 => c_7 ((nI_leI (a := 64) (b := i) (by omega) (by omega)).mpr hh9)
        refine lv_aload_n hx hb dX11_cellsAboveZero_10 rfl (lv_at hl 2 rfl) ?_
        refine lv_iload_n hx hb dX11_cellsAboveZero_11 rfl (lv_at hl 0 rfl) ?_
        obtain ⟨f_1, hS_q⟩ := hTy.k43 hT_q
        refine pl_lald hx hb hK hW hT_q.1 hS_q (vp_in_nI (n := i) (N := 64) (by omega) (by omega)) dX11_cellsAboveZero_12 ?_
        refine lv_topl (fun y_2 ey_2 => ?_)
        refine lv_lconst (v := 0) hx hb dX11_cellsAboveZero_13 (by decide) ?_
        refine W.lcmp hx hb dX11_cellsAboveZero_14 ?_
        refine lv_if_le (tgt := 21) hx hb dX11_cellsAboveZero_15 (by decide) (fun c_15 => ?_) (fun c_15 => ?_)
        · refine lv_iinc (v := nI (i + 1)) (lv' := [(2, .int (nI (i + 1))), (1, .int fd), (0, .ref q)]) hx hb dX11_cellsAboveZero_21 hl (k := 0) rfl (nI_add (i) 1) (by decide) rfl (fun ls hl => ?_)
          refine lv_goto (tgt := 4) hx hb dX11_cellsAboveZero_24 (by decide) ?_
          exact ih4 (i + 1) fd ls (by omega) (by omega) (lv_sub hl [0, 1, 2] rfl)
        · obtain ⟨u_3, eu_3⟩ : ∃ y : Int32, y = fd + Int32.ofInt (1) := ⟨_, rfl⟩
          refine lv_iinc (v := u_3) (lv' := [(1, .int u_3), (2, .int (nI i)), (0, .ref q)]) hx hb dX11_cellsAboveZero_18 hl (k := 1) rfl eu_3.symm (by decide) rfl (fun ls hl => ?_)
          refine lv_iinc (v := nI (i + 1)) (lv' := [(2, .int (nI (i + 1))), (1, .int u_3), (0, .ref q)]) hx hb dX11_cellsAboveZero_21 hl (k := 1) rfl (nI_add (i) 1) (by decide) rfl (fun ls hl => ?_)
          refine lv_goto (tgt := 4) hx hb dX11_cellsAboveZero_24 (by decide) ?_
          exact ih4 (i + 1) u_3 ls (by omega) (by omega) (lv_sub hl [0, 1, 2] rfl)
  exact loop ((65 - 0) + 1) 0 0 ls (Nat.lt_succ_self _) (by omega) (lv_sub hl [0, 1, 2] rfl)

set_option maxHeartbeats 4000000 in
set_option maxRecDepth 100000 in
theorem s_boundOf (l : Launch) (dC : Nat → ClassId) (dI : Nat → Nat → Nat) (cy : Nat → ClassId) (L : List Nat) (kap : Nat → Nat) (pr : Pr) (S : Nat → va_E) (sz : Nat) (b : Nat) (w : Nat) (a : Nat) (c2 : Nat) (hTy : Ty cy L kap pr S) (hT_b : TK L kap b 0) (hT_w : TK L kap w 1) (hb_a : a < 8) (hb_c2 : c2 < 8) : Met l yX11_boundOf (wT yX11_boundOf cX11_boundOf 4 (some .long)) ({ frames := 1, cells := 0, slots := 0, locals := 21 }) (pcN dC dI [.ref b, .ref w, .int (nI a), .int (nI c2)] sz (va_pl L S) (cyT cy) NLs []) (vp_Sl (fun r => True)) 0 0 (fun _ => False) := by
  refine Met.ofW (cc := cX11_boundOf) (maxL := 4) (ret := (some .long)) (by decide) rfl ?_
  intro p e s m args below meth c s₁ B hml hv
  obtain ⟨rfl, hsz, hP, hK, hD0, hN, -⟩ := hv
  have hx := B.exec
  have hb := B.bytes
  have hr := B.returns
  have hT : ∀ wd ∈ TB, wd.before [.ref b, .ref w, .int (nI a), .int (nI c2)].toArray s = true := fun wd h => atoms_spec (ws := wT yX11_boundOf cX11_boundOf 4 (some .long)) B.pre wd (List.mem_cons_of_mem _ h)
  have hown : s.vm.findClass RX11 = some m.cls := findClass_of_methodNamed B.named
  have hlocks := B.notSynchronized
  subst hsz
  have hW : PW dC dI L (AL L s.heap.size) s.heap S s.heap [] := ⟨hP, pl_self hD0, va_S.rf⟩
  have hFr : Fr kap [] S S := Fr.rf
  have hl := lv_entry ([.ref b, .ref w, .int (nI a), .int (nI c2)]) (n := 4) (Nat.le_of_ble_eq_true rfl)
  rw [lg_entry_eq]
  generalize (lg_sl ([.ref b, .ref w, .int (nI a), .int (nI c2)]) ++ List.replicate (4 - (lg_sl ([.ref b, .ref w, .int (nI a), .int (nI c2)])).length) Slot.unset).toArray = ls at hl ⊢
  have hl : lv_has ls 4 [(0, .ref b), (1, .ref w), (2, .int (nI a)), (3, .int (nI c2))] := hl
  refine lv_aload_n hx hb dX11_boundOf_0 rfl (lv_at hl 0 rfl) ?_
  obtain ⟨x_1, x_2, x_3, x_4, x_5, x_6, x_7, x_8, hS_b, hT_x_1, hT_x_2, hT_x_3, hT_x_4, hT_x_5, hT_x_6, hb_x_7⟩ := hTy.k0 hT_b
  refine pl_get (ci := 0) (v := .int x_8) (C := RX0) (T := TX0) (N := 8) hx hb hT iX0 hown hK hW hT_b.1 hS_b rfl 7 (by decide) w118 rfl dX11_boundOf_1 ?_
  by_cases hk_4_0 : x_8 = 0
  · rw [hk_4_0]
    refine lv_lookup (off := 28) (tgt := 32) hx hb dX11_boundOf_4 (by decide) (by decide) (by decide) ?_
    refine lv_aload_n hx hb dX11_boundOf_32 rfl (lv_at hl 1 rfl) ?_
    obtain ⟨x_9, x_10, hS_w, hT_x_9, hb_x_10⟩ := hTy.k1 hT_w
    refine pl_get (ci := 1) (v := .ref x_9) (C := RX1) (T := TX1) (N := 2) hx hb hT iX1 hown hK hW hT_w.1 hS_w rfl 0 (by decide) w199 rfl dX11_boundOf_33 ?_
    refine lv_iload_n hx hb dX11_boundOf_36 rfl (lv_at hl 2 rfl) ?_
    refine lv_iload_n hx hb dX11_boundOf_37 rfl (lv_at hl 3 rfl) ?_
    refine vp_callSi (va_Run.run (va_runS (As := [.int (nI a), .int (nI c2)]) (rest := [.ref x_9]) ⟨hx, hb, hml, hown, hT⟩ (s_cell l dC dI s.heap.size a c2 (by omega) (by omega)) (va_cwS 2 hT (gS w660 w576 w1 w577) rfl rfl rfl (by decide +kernel) ⟨(Nat.le_of_ble_eq_true rfl), (Nat.le_of_ble_eq_true rfl)⟩) ⟨pcW.blind, pcW.pre (va_P0 _ _ _) (hK.sub (tys' := []) [] rfl) (va_D0 (fun _ => True))⟩ rfl rfl hl.1 rfl (lv_room (Nat.le_of_ble_eq_true rfl)) dX11_boundOf_38 ⟨(Nat.le_of_ble_eq_true rfl), (Nat.le_of_ble_eq_true rfl)⟩)) (fun r_11 hr_11 => ?_)
    obtain rfl : r_11 = nI (a * 8 + c2) := hr_11
    obtain ⟨f_12, hS_x_9⟩ := hTy.k29 hT_x_9
    refine pl_lald hx hb hK hW hT_x_9.1 hS_x_9 (vp_in_nI (n := a * 8 + c2) (N := 64) (by omega) (by omega)) dX11_boundOf_41 ?_
    refine lv_topl (fun y_13 ey_13 => ?_)
    exact W.lret (v := y_13) hx hb hr (fun t ht h9 => ⟨y_13, rfl, trivial, ht⟩) (fun q h => by cases h) dX11_boundOf_42
  by_cases hk_4_2 : x_8 = 2
  · rw [hk_4_2]
    refine lv_lookup (off := 39) (tgt := 43) hx hb dX11_boundOf_4 (by decide) (by decide) (by decide) ?_
    refine lv_aload_n hx hb dX11_boundOf_43 rfl (lv_at hl 0 rfl) ?_
    refine pl_get (ci := 0) (v := .ref x_6) (C := RX0) (T := TX0) (N := 8) hx hb hT iX0 hown hK hW hT_b.1 hS_b rfl 5 (by decide) w111 rfl dX11_boundOf_44 ?_
    refine lv_iload_n hx hb dX11_boundOf_47 rfl (lv_at hl 2 rfl) ?_
    refine lv_iload_n hx hb dX11_boundOf_48 rfl (lv_at hl 3 rfl) ?_
    refine vp_callSi (va_Run.run (va_runS (As := [.int (nI a), .int (nI c2)]) (rest := [.ref x_6]) ⟨hx, hb, hml, hown, hT⟩ (s_cell l dC dI s.heap.size a c2 (by omega) (by omega)) (va_cwS 2 hT (gS w660 w576 w1 w577) rfl rfl rfl (by decide +kernel) ⟨(Nat.le_of_ble_eq_true rfl), (Nat.le_of_ble_eq_true rfl)⟩) ⟨pcW.blind, pcW.pre (va_P0 _ _ _) (hK.sub (tys' := []) [] rfl) (va_D0 (fun _ => True))⟩ rfl rfl hl.1 rfl (lv_room (Nat.le_of_ble_eq_true rfl)) dX11_boundOf_49 ⟨(Nat.le_of_ble_eq_true rfl), (Nat.le_of_ble_eq_true rfl)⟩)) (fun r_14 hr_14 => ?_)
    obtain rfl : r_14 = nI (a * 8 + c2) := hr_14
    obtain ⟨f_15, hS_x_6⟩ := hTy.k24 hT_x_6
    refine pl_iald hx hb hK hW hT_x_6.1 hS_x_6 (vp_in_nI (n := a * 8 + c2) (N := 64) (by omega) (by omega)) dX11_boundOf_52 ?_
    refine lv_topi (fun y_16 ey_16 => ?_)
    refine lv_i2l hx hb dX11_boundOf_53 rfl ?_
    refine lv_topl (fun z_17 ez_17 => ?_)
    exact W.lret (v := z_17) hx hb hr (fun t ht h9 => ⟨z_17, rfl, trivial, ht⟩) (fun q h => by cases h) dX11_boundOf_54
  refine lv_lookup (off := 51) (tgt := 55) hx hb dX11_boundOf_4 (by decide) (by show Op.lookupswitch.offset [(0, 28), (2, 39)] 51 _ = _; rw [lv_osw (a := 0) hk_4_0 (by decide), lv_osw (a := 2) hk_4_2 (by decide)]; rfl) (by decide) ?_
  refine lv_aload_n hx hb dX11_boundOf_55 rfl (lv_at hl 1 rfl) ?_
  obtain ⟨x_18, x_19, hS_w, hT_x_18, hb_x_19⟩ := hTy.k1 hT_w
  refine pl_get (ci := 1) (v := .ref x_18) (C := RX1) (T := TX1) (N := 2) hx hb hT iX1 hown hK hW hT_w.1 hS_w rfl 0 (by decide) w199 rfl dX11_boundOf_56 ?_
  refine lv_iload_n hx hb dX11_boundOf_59 rfl (lv_at hl 2 rfl) ?_
  refine lv_iload_n hx hb dX11_boundOf_60 rfl (lv_at hl 3 rfl) ?_
  refine vp_callSi (va_Run.run (va_runS (As := [.int (nI a), .int (nI c2)]) (rest := [.ref x_18]) ⟨hx, hb, hml, hown, hT⟩ (s_cell l dC dI s.heap.size a c2 (by omega) (by omega)) (va_cwS 2 hT (gS w660 w576 w1 w577) rfl rfl rfl (by decide +kernel) ⟨(Nat.le_of_ble_eq_true rfl), (Nat.le_of_ble_eq_true rfl)⟩) ⟨pcW.blind, pcW.pre (va_P0 _ _ _) (hK.sub (tys' := []) [] rfl) (va_D0 (fun _ => True))⟩ rfl rfl hl.1 rfl (lv_room (Nat.le_of_ble_eq_true rfl)) dX11_boundOf_61 ⟨(Nat.le_of_ble_eq_true rfl), (Nat.le_of_ble_eq_true rfl)⟩)) (fun r_20 hr_20 => ?_)
  obtain rfl : r_20 = nI (a * 8 + c2) := hr_20
  obtain ⟨f_21, hS_x_18⟩ := hTy.k29 hT_x_18
  refine pl_lald hx hb hK hW hT_x_18.1 hS_x_18 (vp_in_nI (n := a * 8 + c2) (N := 64) (by omega) (by omega)) dX11_boundOf_64 ?_
  refine lv_topl (fun y_22 ey_22 => ?_)
  refine lv_aload_n hx hb dX11_boundOf_65 rfl (lv_at hl 1 rfl) ?_
  refine pl_get (ci := 1) (v := .ref x_18) (C := RX1) (T := TX1) (N := 2) hx hb hT iX1 hown hK hW hT_w.1 hS_w rfl 0 (by decide) w199 rfl dX11_boundOf_66 ?_
  refine lv_iload_n hx hb dX11_boundOf_69 rfl (lv_at hl 3 rfl) ?_
  refine lv_iload_n hx hb dX11_boundOf_70 rfl (lv_at hl 2 rfl) ?_
  refine vp_callSi (va_Run.run (va_runS (As := [.int (nI c2), .int (nI a)]) (rest := [.ref x_18, .long y_22]) ⟨hx, hb, hml, hown, hT⟩ (s_cell l dC dI s.heap.size c2 a (by omega) (by omega)) (va_cwS 2 hT (gS w660 w576 w1 w577) rfl rfl rfl (by decide +kernel) ⟨(Nat.le_of_ble_eq_true rfl), (Nat.le_of_ble_eq_true rfl)⟩) ⟨pcW.blind, pcW.pre (va_P0 _ _ _) (hK.sub (tys' := []) [] rfl) (va_D0 (fun _ => True))⟩ rfl rfl hl.1 rfl (lv_room (Nat.le_of_ble_eq_true rfl)) dX11_boundOf_71 ⟨(Nat.le_of_ble_eq_true rfl), (Nat.le_of_ble_eq_true rfl)⟩)) (fun r_23 hr_23 => ?_)
  obtain rfl : r_23 = nI (c2 * 8 + a) := hr_23
  refine pl_lald hx hb hK hW hT_x_18.1 hS_x_18 (vp_in_nI (n := c2 * 8 + a) (N := 64) (by omega) (by omega)) dX11_boundOf_74 ?_
  refine lv_topl (fun y_24 ey_24 => ?_)
  refine lv_ladd hx hb dX11_boundOf_75 ?_
  refine lv_topl (fun z_25 ez_25 => ?_)
  exact W.lret (v := z_25) hx hb hr (fun t ht h9 => ⟨z_25, rfl, trivial, ht⟩) (fun q h => by cases h) dX11_boundOf_76

set_option maxHeartbeats 4000000 in
set_option maxRecDepth 100000 in
theorem s_gather (l : Launch) (dC : Nat → ClassId) (dI : Nat → Nat → Nat) (cy : Nat → ClassId) (L : List Nat) (kap : Nat → Nat) (pr : Pr) (S : Nat → va_E) (sz : Nat) (w : Nat) (b : Nat) (q : Nat) (k : Int32) (wo : Int32) (hTy : Ty cy L kap pr S) (hT_w : TK L kap w 1) (hT_b : TK L kap b 0) (hb_q : q ≤ 8) : Met l yX1_gather (wT yX1_gather cX1_gather 6 none) ({ frames := 1, cells := 0, slots := 0, locals := 24 }) (pcN dC dI [.ref w, .ref b, .int (nI q), .int k, .int wo] sz (va_pl L S) (cyT cy) NLs []) (va_Qv (fun S' => Ty cy L kap pr S' ∧ Fr kap [1, 29] S S') (fun S' t => pB dC dI (AL L sz) (va_pl L S') (cyT cy) t) (AL L sz)) 0 0 (AL L sz) := by
  refine Met.ofW (cc := cX1_gather) (maxL := 6) (ret := none) (by decide) rfl ?_
  intro p e s m args below meth c s₁ B hml hv
  obtain ⟨rfl, hsz, hP, hK, hD0, hN, -⟩ := hv
  have hx := B.exec
  have hb := B.bytes
  have hr := B.returns
  have hT : ∀ wd ∈ TB, wd.before [.ref w, .ref b, .int (nI q), .int k, .int wo].toArray s = true := fun wd h => atoms_spec (ws := wT yX1_gather cX1_gather 6 none) B.pre wd (List.mem_cons_of_mem _ h)
  have hown : s.vm.findClass RX1 = some m.cls := findClass_of_methodNamed B.named
  have hlocks := B.notSynchronized
  subst hsz
  have hW : PW dC dI L (AL L s.heap.size) s.heap S s.heap [] := ⟨hP, pl_self hD0, va_S.rf⟩
  have hA0 : ∀ q, q ∈ L → AL L s.heap.size q := fun _ h => Or.inl h
  have hA : ∀ q, s.heap.size ≤ q → AL L s.heap.size q := fun _ h => Or.inr h
  have hFr : Fr kap [1, 29] S S := Fr.rf
  have hl := lv_entry ([.ref w, .ref b, .int (nI q), .int k, .int wo]) (n := 6) (Nat.le_of_ble_eq_true rfl)
  rw [lg_entry_eq]
  generalize (lg_sl ([.ref w, .ref b, .int (nI q), .int k, .int wo]) ++ List.replicate (6 - (lg_sl ([.ref w, .ref b, .int (nI q), .int k, .int wo])).length) Slot.unset).toArray = ls at hl ⊢
  have hl : lv_has ls 6 [(0, .ref w), (1, .ref b), (2, .int (nI q)), (3, .int k), (4, .int wo)] := hl
  refine lv_aload_n hx hb dX1_gather_0 rfl (lv_at hl 0 rfl) ?_
  obtain ⟨x_1, x_2, hS_w, hT_x_1, hb_x_2⟩ := hTy.k1 hT_w
  refine pl_get (ci := 1) (v := .ref x_1) (C := RX1) (T := TX1) (N := 2) hx hb hT iX1 hown hK hW hT_w.1 hS_w rfl 0 (by decide) w197 rfl dX1_gather_1 ?_
  refine lv_lconst (v := 0) hx hb dX1_gather_4 (by decide) ?_
  refine pl_callv (va_runS (As := [.ref x_1, .long 0]) (rest := []) ⟨hx, hb, hml, hown, hT⟩ (s_fillJ29 l dC dI cy L kap pr S s.heap.size x_1 0 hTy hT_x_1) (va_cwS 2 hT (gS w677 w678 w6 w679) rfl rfl rfl (by decide +kernel) ⟨(Nat.le_of_ble_eq_true rfl), (Nat.le_of_ble_eq_true rfl)⟩) ⟨pcN.blind, pcN.pre hW.1 hK hW.2.1 hN (fun q h => absurd h List.not_mem_nil)⟩ rfl rfl hl.1 rfl (lv_room (Nat.le_of_ble_eq_true rfl)) dX1_gather_5 ⟨(Nat.le_of_ble_eq_true rfl), (Nat.le_of_ble_eq_true rfl)⟩) hW hA0 hA (fun S_3 H locs hrel hW => ?_)
  obtain ⟨hTy, hF1⟩ := hrel
  have hFr := hFr.tr hF1 (by decide)
  have hS_w := hF1.at hT_w (by decide) hS_w
  refine lv_aload_n hx hb dX1_gather_8 rfl (lv_at hl 0 rfl) ?_
  refine lv_iload_n hx hb dX1_gather_9 rfl (lv_at hl 2 rfl) ?_
  refine pl_put (ci := 1) (v := .int (nI q)) (ty := .int) (C := RX1) (T := TX1) (N := 2) (fs' := [.ref x_1, .int (nI q)]) hx hb hT iX1 tyX1 tyX1_ok nmX1 hown hK hW hT_w.1 hS_w rfl 1 (by decide) w203 rfl (by decide +kernel) rfl rfl (Nat.le_of_ble_eq_true rfl) rfl dX1_gather_10 (fun H locs S_4 e1 hW => ?_)
  have hTy := hTy.u1 e1 hT_w ⟨x_1, q, rfl, hT_x_1, (by omega)⟩
  have hFr := uf hFr e1 hT_w (by decide) (by decide)
  have hS_w := us e1
  refine lv_iconst (v := 0) hx hb dX1_gather_13 (by decide) ?_
  refine lv_istore (lv' := [(5, .int 0), (0, .ref w), (1, .ref b), (2, .int (nI q)), (3, .int k), (4, .int wo)]) hx hb dX1_gather_14 hl (by decide) rfl (fun ls hl => ?_)
  have loop : ∀ (fuel : Nat) (i : Nat) (SS : Nat → va_E) (H : Heap) (locs : List Loc) (ls : Array Slot), 41 - i < fuel → (i ≤ 40) → Ty cy L kap pr SS → Fr kap [1, 29] S SS → Fr kap [29] S_4 SS → PW dC dI L (AL L s.heap.size) s.heap SS H locs → lv_has ls 6 [(5, .int (nI i)), (0, .ref w), (1, .ref b), (2, .int (nI q)), (3, .int k), (4, .int wo)] → W p l e (headSpec (wT yX1_gather cX1_gather 6 none) { frames := 1, cells := 0, slots := 0, locals := 24 }).room s m [.ref w, .ref b, .int (nI q), .int k, .int wo].toArray below meth c H locs 0 0 (MQ below (va_Qv (fun S' => Ty cy L kap pr S' ∧ Fr kap [1, 29] S S') (fun S' t => pB dC dI (AL L s.heap.size) (va_pl L S') (cyT cy) t) (AL L s.heap.size)) [.ref w, .ref b, .int (nI q), .int k, .int wo].toArray s 0 0 (AL L s.heap.size)) (F0 m 16 ls []) := by
    intro fuel
    induction fuel with
    | zero => intro i SS H locs ls h; exact absurd h (Nat.not_lt_zero _)
    | succ fu16 ih16 =>
      intro i S_5 H locs ls hm16 hb_i hTy hFr hFl16 hW hl
      have hS_w := hFl16.at hT_w (by decide) hS_w
      refine lv_iload hx hb dX1_gather_16 (lv_at hl 0 rfl) ?_
      refine lv_aload_n hx hb dX1_gather_18 rfl (lv_at hl 2 rfl) ?_
      obtain ⟨x_6, x_7, x_8, x_9, x_10, x_11, x_12, x_13, hS_b, hT_x_6, hT_x_7, hT_x_8, hT_x_9, hT_x_10, hT_x_11, hb_x_12⟩ := hTy.k0 hT_b
      refine pl_get (ci := 0) (v := .int (nI x_12)) (C := RX0) (T := TX0) (N := 8) hx hb hT iX0 hown hK hW hT_b.1 hS_b rfl 6 (by decide) w113 rfl dX1_gather_19 ?_
      refine lv_icmp_ge (tgt := 108) hx hb dX1_gather_22 (by decide) (fun c_22 => ?_) (fun c_22 => ?_)
      · have c_22 : x_12 ≤ i := (nI_leI (a := x_12) (b := i) (by omega) (by omega)).mp c_22
        exact W.vret hx hb hr (fun t ht h9 => ⟨⟨S_5, rfl, ⟨hTy, hFr⟩, by rw [ht]; exact hW.1, va_K.moved h9.alike hK, hW.2.1⟩, hW.2.2.F ht⟩) hW.2.2.2.2 dX1_gather_108
      · have c_22 : ¬ (x_12 ≤ i) := fun hh9 => c_22 ((nI_leI (a := x_12) (b := i) (by omega) (by omega)).mpr hh9)
        refine lv_aload_n hx hb dX1_gather_25 rfl (lv_at hl 2 rfl) ?_
        refine pl_get (ci := 0) (v := .ref x_8) (C := RX0) (T := TX0) (N := 8) hx hb hT iX0 hown hK hW hT_b.1 hS_b rfl 2 (by decide) w97 rfl dX1_gather_26 ?_
        refine lv_iload hx hb dX1_gather_29 (lv_at hl 0 rfl) ?_
        obtain ⟨f_14, hS_x_8, hi_f_14⟩ := hTy.k21 hT_x_8
        refine pl_iald hx hb hK hW hT_x_8.1 hS_x_8 (vp_in_nI (n := i) (N := 40) (by omega) (by omega)) dX1_gather_31 ?_
        refine lv_topi (fun y_15 ey_15 => ?_)
        obtain ⟨k_16, hb_k_16, hq_k_16⟩ := hi_f_14 (i) (by omega)
        obtain rfl : y_15 = nI k_16 := ey_15.trans (by show f_14 (nI (i)).toNatClampNeg = _; rw [nI_clamp (by omega)]; exact hq_k_16)
        refine lv_iload_n hx hb dX1_gather_32 rfl (lv_at hl 4 rfl) ?_
        refine lv_icmp_ne (tgt := 102) hx hb dX1_gather_33 (by decide) (fun c_33 => ?_) (fun c_33 => ?_)
        · refine lv_iinc (v := nI (i + 1)) (lv' := [(5, .int (nI (i + 1))), (0, .ref w), (1, .ref b), (2, .int (nI q)), (3, .int k), (4, .int wo)]) hx hb dX1_gather_102 hl (k := 0) rfl (nI_add (i) 1) (by decide) rfl (fun ls hl => ?_)
          refine lv_goto (tgt := 16) hx hb dX1_gather_105 (by decide) ?_
          exact ih16 (i + 1) _ _ _ ls (by omega) (by omega) hTy hFr hFl16 hW (lv_sub hl [0, 1, 2, 3, 4, 5] rfl)
        · refine lv_aload_n hx hb dX1_gather_36 rfl (lv_at hl 2 rfl) ?_
          refine pl_get (ci := 0) (v := .ref x_10) (C := RX0) (T := TX0) (N := 8) hx hb hT iX0 hown hK hW hT_b.1 hS_b rfl 4 (by decide) w105 rfl dX1_gather_37 ?_
          refine lv_iload hx hb dX1_gather_40 (lv_at hl 0 rfl) ?_
          obtain ⟨f_17, hS_x_10⟩ := hTy.k23 hT_x_10
          refine pl_zald hx hb hK hW hT_x_10.1 hS_x_10 (vp_in_nI (n := i) (N := 40) (by omega) (by omega)) dX1_gather_42 ?_
          refine lv_topi (fun y_18 ey_18 => ?_)
          refine lv_if_ne (tgt := 102) hx hb dX1_gather_43 (by decide) (fun c_43 => ?_) (fun c_43 => ?_)
          · refine lv_iinc (v := nI (i + 1)) (lv' := [(5, .int (nI (i + 1))), (0, .ref w), (1, .ref b), (2, .int (nI q)), (3, .int k), (4, .int wo)]) hx hb dX1_gather_102 hl (k := 0) rfl (nI_add (i) 1) (by decide) rfl (fun ls hl => ?_)
            refine lv_goto (tgt := 16) hx hb dX1_gather_105 (by decide) ?_
            exact ih16 (i + 1) _ _ _ ls (by omega) (by omega) hTy hFr hFl16 hW (lv_sub hl [0, 1, 2, 3, 4, 5] rfl)
          · refine lv_aload_n hx hb dX1_gather_46 rfl (lv_at hl 2 rfl) ?_
            refine pl_get (ci := 0) (v := .ref x_6) (C := RX0) (T := TX0) (N := 8) hx hb hT iX0 hown hK hW hT_b.1 hS_b rfl 0 (by decide) w90 rfl dX1_gather_47 ?_
            refine lv_iload hx hb dX1_gather_50 (lv_at hl 0 rfl) ?_
            obtain ⟨f_19, hS_x_6, hi_f_19⟩ := hTy.k20 hT_x_6
            refine pl_iald hx hb hK hW hT_x_6.1 hS_x_6 (vp_in_nI (n := i) (N := 40) (by omega) (by omega)) dX1_gather_52 ?_
            refine lv_topi (fun y_20 ey_20 => ?_)
            obtain ⟨k_21, hb_k_21, hq_k_21⟩ := hi_f_19 (i) (by omega)
            obtain rfl : y_20 = nI k_21 := ey_20.trans (by show f_19 (nI (i)).toNatClampNeg = _; rw [nI_clamp (by omega)]; exact hq_k_21)
            refine lv_iload hx hb dX1_gather_53 (lv_at hl 5 rfl) ?_
            refine lv_icmp_eq (tgt := 102) hx hb dX1_gather_55 (by decide) (fun c_55 => ?_) (fun c_55 => ?_)
            · refine lv_iinc (v := nI (i + 1)) (lv' := [(5, .int (nI (i + 1))), (0, .ref w), (1, .ref b), (2, .int (nI q)), (3, .int k), (4, .int wo)]) hx hb dX1_gather_102 hl (k := 0) rfl (nI_add (i) 1) (by decide) rfl (fun ls hl => ?_)
              refine lv_goto (tgt := 16) hx hb dX1_gather_105 (by decide) ?_
              exact ih16 (i + 1) _ _ _ ls (by omega) (by omega) hTy hFr hFl16 hW (lv_sub hl [0, 1, 2, 3, 4, 5] rfl)
            · refine lv_aload_n hx hb dX1_gather_58 rfl (lv_at hl 2 rfl) ?_
              refine pl_get (ci := 0) (v := .ref x_7) (C := RX0) (T := TX0) (N := 8) hx hb hT iX0 hown hK hW hT_b.1 hS_b rfl 1 (by decide) w94 rfl dX1_gather_59 ?_
              refine lv_iload hx hb dX1_gather_62 (lv_at hl 0 rfl) ?_
              obtain ⟨f_22, hS_x_7, hi_f_22⟩ := hTy.k20 hT_x_7
              refine pl_iald hx hb hK hW hT_x_7.1 hS_x_7 (vp_in_nI (n := i) (N := 40) (by omega) (by omega)) dX1_gather_64 ?_
              refine lv_topi (fun y_23 ey_23 => ?_)
              obtain ⟨k_24, hb_k_24, hq_k_24⟩ := hi_f_22 (i) (by omega)
              obtain rfl : y_23 = nI k_24 := ey_23.trans (by show f_22 (nI (i)).toNatClampNeg = _; rw [nI_clamp (by omega)]; exact hq_k_24)
              refine lv_iload hx hb dX1_gather_65 (lv_at hl 5 rfl) ?_
              refine lv_icmp_eq (tgt := 102) hx hb dX1_gather_67 (by decide) (fun c_67 => ?_) (fun c_67 => ?_)
              · refine lv_iinc (v := nI (i + 1)) (lv' := [(5, .int (nI (i + 1))), (0, .ref w), (1, .ref b), (2, .int (nI q)), (3, .int k), (4, .int wo)]) hx hb dX1_gather_102 hl (k := 0) rfl (nI_add (i) 1) (by decide) rfl (fun ls hl => ?_)
                refine lv_goto (tgt := 16) hx hb dX1_gather_105 (by decide) ?_
                exact ih16 (i + 1) _ _ _ ls (by omega) (by omega) hTy hFr hFl16 hW (lv_sub hl [0, 1, 2, 3, 4, 5] rfl)
              · refine lv_aload_n hx hb dX1_gather_70 rfl (lv_at hl 1 rfl) ?_
                refine pl_get (ci := 1) (v := .ref x_1) (C := RX1) (T := TX1) (N := 2) hx hb hT iX1 hown hK hW hT_w.1 hS_w rfl 0 (by decide) w197 rfl dX1_gather_71 ?_
                refine lv_aload_n hx hb dX1_gather_74 rfl (lv_at hl 2 rfl) ?_
                refine pl_get (ci := 0) (v := .ref x_6) (C := RX0) (T := TX0) (N := 8) hx hb hT iX0 hown hK hW hT_b.1 hS_b rfl 0 (by decide) w90 rfl dX1_gather_75 ?_
                refine lv_iload hx hb dX1_gather_78 (lv_at hl 0 rfl) ?_
                refine pl_iald hx hb hK hW hT_x_6.1 hS_x_6 (vp_in_nI (n := i) (N := 40) (by omega) (by omega)) dX1_gather_80 ?_
                refine lv_topi (fun y_25 ey_25 => ?_)
                obtain ⟨k_26, hb_k_26, hq_k_26⟩ := hi_f_19 (i) (by omega)
                obtain rfl : y_25 = nI k_26 := ey_25.trans (by show f_19 (nI (i)).toNatClampNeg = _; rw [nI_clamp (by omega)]; exact hq_k_26)
                refine lv_aload_n hx hb dX1_gather_81 rfl (lv_at hl 2 rfl) ?_
                refine pl_get (ci := 0) (v := .ref x_7) (C := RX0) (T := TX0) (N := 8) hx hb hT iX0 hown hK hW hT_b.1 hS_b rfl 1 (by decide) w94 rfl dX1_gather_82 ?_
                refine lv_iload hx hb dX1_gather_85 (lv_at hl 0 rfl) ?_
                refine pl_iald hx hb hK hW hT_x_7.1 hS_x_7 (vp_in_nI (n := i) (N := 40) (by omega) (by omega)) dX1_gather_87 ?_
                refine lv_topi (fun y_27 ey_27 => ?_)
                obtain ⟨k_28, hb_k_28, hq_k_28⟩ := hi_f_22 (i) (by omega)
                obtain rfl : y_27 = nI k_28 := ey_27.trans (by show f_22 (nI (i)).toNatClampNeg = _; rw [nI_clamp (by omega)]; exact hq_k_28)
                refine vp_callSi (va_Run.run (va_runSN (As := [.int (nI k_26), .int (nI k_28)]) (rest := [.ref x_1]) ⟨hx, hb, hml, hown, hT⟩ (s_cell l dC dI H.size k_26 k_28 (by omega) (by omega)) ⟨va_cnB 2 hT (gT w577) rfl rfl rfl (hN (RX1, 44, yX11_cell, RX11) (by decide +kernel)) (hT _ w1) (by decide +kernel) ⟨(Nat.le_of_ble_eq_true rfl), (Nat.le_of_ble_eq_true rfl)⟩, (hT _ w576), trivial⟩ ⟨pcW.blind, pcW.pre (va_P0 _ _ _) (hK.sub (tys' := []) [] rfl) (va_D0 (fun _ => True))⟩ rfl rfl hl.1 rfl (lv_room (Nat.le_of_ble_eq_true rfl)) dX1_gather_88 ⟨(Nat.le_of_ble_eq_true rfl), (Nat.le_of_ble_eq_true rfl)⟩)) (fun r_29 hr_29 => ?_)
                obtain rfl : r_29 = nI (k_26 * 8 + k_28) := hr_29
                refine lv_dup2_11 hx hb dX1_gather_91 rfl rfl ?_
                obtain ⟨f_30, hS_x_1⟩ := hTy.k29 hT_x_1
                refine pl_lald hx hb hK hW hT_x_1.1 hS_x_1 (vp_in_nI (n := k_26 * 8 + k_28) (N := 64) (by omega) (by omega)) dX1_gather_92 ?_
                refine lv_topl (fun y_31 ey_31 => ?_)
                refine lv_aload_n hx hb dX1_gather_93 rfl (lv_at hl 2 rfl) ?_
                refine pl_get (ci := 0) (v := .ref x_9) (C := RX0) (T := TX0) (N := 8) hx hb hT iX0 hown hK hW hT_b.1 hS_b rfl 3 (by decide) w102 rfl dX1_gather_94 ?_
                refine lv_iload hx hb dX1_gather_97 (lv_at hl 0 rfl) ?_
                obtain ⟨f_32, hS_x_9⟩ := hTy.k22 hT_x_9
                refine pl_lald hx hb hK hW hT_x_9.1 hS_x_9 (vp_in_nI (n := i) (N := 40) (by omega) (by omega)) dX1_gather_99 ?_
                refine lv_topl (fun y_33 ey_33 => ?_)
                refine lv_ladd hx hb dX1_gather_100 ?_
                refine lv_topl (fun z_34 ez_34 => ?_)
                refine pl_last hx hb hK hW hT_x_1.1 hS_x_1 (vp_in_nI (n := k_26 * 8 + k_28) (N := 64) (by omega) (by omega)) dX1_gather_101 (fun H locs f_36 S_35 ef_f_36 e1 hW => ?_)
                have hTy := hTy.u29 e1 hT_x_1 ⟨f_36, rfl⟩
                have hS_w := un e1 hT_w hT_x_1 (by decide) hS_w
                have hS_b := un e1 hT_b hT_x_1 (by decide) hS_b
                have hS_x_8 := un e1 hT_x_8 hT_x_1 (by decide) hS_x_8
                have hS_x_10 := un e1 hT_x_10 hT_x_1 (by decide) hS_x_10
                have hS_x_6 := un e1 hT_x_6 hT_x_1 (by decide) hS_x_6
                have hS_x_7 := un e1 hT_x_7 hT_x_1 (by decide) hS_x_7
                have hS_x_9 := un e1 hT_x_9 hT_x_1 (by decide) hS_x_9
                have hFr := uf hFr e1 hT_x_1 (by decide) (by decide)
                have hFl16 := uf hFl16 e1 hT_x_1 (by decide) (by decide)
                have hS_x_1 := us e1
                refine lv_iinc (v := nI (i + 1)) (lv' := [(5, .int (nI (i + 1))), (0, .ref w), (1, .ref b), (2, .int (nI q)), (3, .int k), (4, .int wo)]) hx hb dX1_gather_102 hl (k := 0) rfl (nI_add (i) 1) (by decide) rfl (fun ls hl => ?_)
                refine lv_goto (tgt := 16) hx hb dX1_gather_105 (by decide) ?_
                exact ih16 (i + 1) _ _ _ ls (by omega) (by omega) hTy hFr hFl16 hW (lv_sub hl [0, 1, 2, 3, 4, 5] rfl)
  exact loop ((41 - 0) + 1) 0 _ _ _ ls (Nat.lt_succ_self _) (by omega) hTy hFr Fr.rf hW (lv_sub hl [0, 1, 2, 3, 4, 5] rfl)

set_option maxHeartbeats 4000000 in
set_option maxRecDepth 100000 in
theorem s_goes (l : Launch) (dC : Nat → ClassId) (dI : Nat → Nat → Nat) (cy : Nat → ClassId) (L : List Nat) (kap : Nat → Nat) (pr : Pr) (S : Nat → va_E) (sz : Nat) (w : Nat) (a : Nat) (c2 : Nat) (hTy : Ty cy L kap pr S) (hT_w : TK L kap w 1) (hb_a : a < 8) (hb_c2 : c2 < 8) : Met l yX1_goes (wT yX1_goes cX1_goes 3 (some .boolean)) ({ frames := 1, cells := 0, slots := 0, locals := 21 }) (pcN dC dI [.ref w, .int (nI a), .int (nI c2)] sz (va_pl L S) (cyT cy) NLs []) (vp_Si (fun r => r = 0 ∨ r = 1)) 0 0 (fun _ => False) := by
  refine Met.ofW (cc := cX1_goes) (maxL := 3) (ret := (some .boolean)) (by decide) rfl ?_
  intro p e s m args below meth c s₁ B hml hv
  obtain ⟨rfl, hsz, hP, hK, hD0, hN, -⟩ := hv
  have hx := B.exec
  have hb := B.bytes
  have hr := B.returns
  have hT : ∀ wd ∈ TB, wd.before [.ref w, .int (nI a), .int (nI c2)].toArray s = true := fun wd h => atoms_spec (ws := wT yX1_goes cX1_goes 3 (some .boolean)) B.pre wd (List.mem_cons_of_mem _ h)
  have hown : s.vm.findClass RX1 = some m.cls := findClass_of_methodNamed B.named
  have hlocks := B.notSynchronized
  subst hsz
  have hW : PW dC dI L (AL L s.heap.size) s.heap S s.heap [] := ⟨hP, pl_self hD0, va_S.rf⟩
  have hFr : Fr kap [] S S := Fr.rf
  have hl := lv_entry ([.ref w, .int (nI a), .int (nI c2)]) (n := 3) (Nat.le_of_ble_eq_true rfl)
  rw [lg_entry_eq]
  generalize (lg_sl ([.ref w, .int (nI a), .int (nI c2)]) ++ List.replicate (3 - (lg_sl ([.ref w, .int (nI a), .int (nI c2)])).length) Slot.unset).toArray = ls at hl ⊢
  have hl : lv_has ls 3 [(0, .ref w), (1, .int (nI a)), (2, .int (nI c2))] := hl
  refine lv_aload_n hx hb dX1_goes_0 rfl (lv_at hl 0 rfl) ?_
  obtain ⟨x_1, x_2, hS_w, hT_x_1, hb_x_2⟩ := hTy.k1 hT_w
  refine pl_get (ci := 1) (v := .ref x_1) (C := RX1) (T := TX1) (N := 2) hx hb hT iX1 hown hK hW hT_w.1 hS_w rfl 0 (by decide) w197 rfl dX1_goes_1 ?_
  refine lv_iload_n hx hb dX1_goes_4 rfl (lv_at hl 1 rfl) ?_
  refine lv_iload_n hx hb dX1_goes_5 rfl (lv_at hl 2 rfl) ?_
  refine vp_callSi (va_Run.run (va_runSN (As := [.int (nI a), .int (nI c2)]) (rest := [.ref x_1]) ⟨hx, hb, hml, hown, hT⟩ (s_cell l dC dI s.heap.size a c2 (by omega) (by omega)) ⟨va_cnB 2 hT (gT w577) rfl rfl rfl (hN (RX1, 44, yX11_cell, RX11) (by decide +kernel)) (hT _ w1) (by decide +kernel) ⟨(Nat.le_of_ble_eq_true rfl), (Nat.le_of_ble_eq_true rfl)⟩, (hT _ w576), trivial⟩ ⟨pcW.blind, pcW.pre (va_P0 _ _ _) (hK.sub (tys' := []) [] rfl) (va_D0 (fun _ => True))⟩ rfl rfl hl.1 rfl (lv_room (Nat.le_of_ble_eq_true rfl)) dX1_goes_6 ⟨(Nat.le_of_ble_eq_true rfl), (Nat.le_of_ble_eq_true rfl)⟩)) (fun r_3 hr_3 => ?_)
  obtain rfl : r_3 = nI (a * 8 + c2) := hr_3
  obtain ⟨f_4, hS_x_1⟩ := hTy.k29 hT_x_1
  refine pl_lald hx hb hK hW hT_x_1.1 hS_x_1 (vp_in_nI (n := a * 8 + c2) (N := 64) (by omega) (by omega)) dX1_goes_9 ?_
  refine lv_topl (fun y_5 ey_5 => ?_)
  refine lv_lconst (v := 0) hx hb dX1_goes_10 (by decide) ?_
  refine W.lcmp hx hb dX1_goes_11 ?_
  refine lv_if_le (tgt := 19) hx hb dX1_goes_12 (by decide) (fun c_12 => ?_) (fun c_12 => ?_)
  · refine lv_iconst (v := 0) hx hb dX1_goes_19 (by decide) ?_
    exact W.zret (ty := .boolean) (v := 0) hx hb hr (by decide) (fun t ht h9 => ⟨0, rfl, Or.inl rfl, ht⟩) (fun q h => by cases h) dX1_goes_20
  · refine lv_iconst (v := 1) hx hb dX1_goes_15 (by decide) ?_
    refine lv_goto (tgt := 20) hx hb dX1_goes_16 (by decide) ?_
    exact W.zret (ty := .boolean) (v := 1) hx hb hr (by decide) (fun t ht h9 => ⟨1, rfl, Or.inr rfl, ht⟩) (fun q h => by cases h) dX1_goes_20

set_option maxHeartbeats 4000000 in
set_option maxRecDepth 100000 in
theorem s_outOf (l : Launch) (dC : Nat → ClassId) (dI : Nat → Nat → Nat) (cy : Nat → ClassId) (L : List Nat) (kap : Nat → Nat) (pr : Pr) (S : Nat → va_E) (sz : Nat) (w : Nat) (a : Nat) (hTy : Ty cy L kap pr S) (hT_w : TK L kap w 1) (hb_a : a < 8) : Met l yX1_outOf (wT yX1_outOf cX1_outOf 2 (some .long)) ({ frames := 2, cells := 0, slots := 0, locals := 45 }) (pcN dC dI [.ref w, .int (nI a)] sz (va_pl L S) (cyT cy) NLs []) (vp_Sl (fun r => True)) 0 0 (fun _ => False) := by
  refine Met.ofW (cc := cX1_outOf) (maxL := 2) (ret := (some .long)) (by decide) rfl ?_
  intro p e s m args below meth c s₁ B hml hv
  obtain ⟨rfl, hsz, hP, hK, hD0, hN, -⟩ := hv
  have hx := B.exec
  have hb := B.bytes
  have hr := B.returns
  have hT : ∀ wd ∈ TB, wd.before [.ref w, .int (nI a)].toArray s = true := fun wd h => atoms_spec (ws := wT yX1_outOf cX1_outOf 2 (some .long)) B.pre wd (List.mem_cons_of_mem _ h)
  have hown : s.vm.findClass RX1 = some m.cls := findClass_of_methodNamed B.named
  have hlocks := B.notSynchronized
  subst hsz
  have hW : PW dC dI L (AL L s.heap.size) s.heap S s.heap [] := ⟨hP, pl_self hD0, va_S.rf⟩
  have hFr : Fr kap [] S S := Fr.rf
  have hl := lv_entry ([.ref w, .int (nI a)]) (n := 2) (Nat.le_of_ble_eq_true rfl)
  rw [lg_entry_eq]
  generalize (lg_sl ([.ref w, .int (nI a)]) ++ List.replicate (2 - (lg_sl ([.ref w, .int (nI a)])).length) Slot.unset).toArray = ls at hl ⊢
  have hl : lv_has ls 2 [(0, .ref w), (1, .int (nI a))] := hl
  refine lv_aload_n hx hb dX1_outOf_0 rfl (lv_at hl 0 rfl) ?_
  obtain ⟨x_1, x_2, hS_w, hT_x_1, hb_x_2⟩ := hTy.k1 hT_w
  refine pl_get (ci := 1) (v := .ref x_1) (C := RX1) (T := TX1) (N := 2) hx hb hT iX1 hown hK hW hT_w.1 hS_w rfl 0 (by decide) w197 rfl dX1_outOf_1 ?_
  refine lv_iload_n hx hb dX1_outOf_4 rfl (lv_at hl 1 rfl) ?_
  refine vp_callSl (va_Run.run (va_runSN (As := [.ref x_1, .int (nI a)]) (rest := []) ⟨hx, hb, hml, hown, hT⟩ (s_sumOut29 l dC dI cy L kap pr S s.heap.size x_1 a hTy hT_x_1 (by omega)) ⟨va_cnB 2 hT (gT w748) rfl rfl rfl (hN (RX1, 51, yX11_sumOut, RX11) (by decide +kernel)) (hT _ w1) (by decide +kernel) ⟨(Nat.le_of_ble_eq_true rfl), (Nat.le_of_ble_eq_true rfl)⟩, (hT _ w747), trivial⟩ ⟨pcN.blind, pcN.pre hW.1 hK hW.2.1 hN (fun q h => absurd h List.not_mem_nil)⟩ rfl rfl hl.1 rfl (lv_room (Nat.le_of_ble_eq_true rfl)) dX1_outOf_5 ⟨(Nat.le_of_ble_eq_true rfl), (Nat.le_of_ble_eq_true rfl)⟩)) (fun r_3 hr_3 => ?_)
  exact W.lret (v := r_3) hx hb hr (fun t ht h9 => ⟨r_3, rfl, trivial, ht⟩) (fun q h => by cases h) dX1_outOf_8

set_option maxHeartbeats 4000000 in
set_option maxRecDepth 100000 in
theorem s_into (l : Launch) (dC : Nat → ClassId) (dI : Nat → Nat → Nat) (cy : Nat → ClassId) (L : List Nat) (kap : Nat → Nat) (pr : Pr) (S : Nat → va_E) (sz : Nat) (w : Nat) (a : Nat) (hTy : Ty cy L kap pr S) (hT_w : TK L kap w 1) (hb_a : a < 8) : Met l yX1_into (wT yX1_into cX1_into 2 (some .long)) ({ frames := 2, cells := 0, slots := 0, locals := 45 }) (pcN dC dI [.ref w, .int (nI a)] sz (va_pl L S) (cyT cy) NLs []) (vp_Sl (fun r => True)) 0 0 (fun _ => False) := by
  refine Met.ofW (cc := cX1_into) (maxL := 2) (ret := (some .long)) (by decide) rfl ?_
  intro p e s m args below meth c s₁ B hml hv
  obtain ⟨rfl, hsz, hP, hK, hD0, hN, -⟩ := hv
  have hx := B.exec
  have hb := B.bytes
  have hr := B.returns
  have hT : ∀ wd ∈ TB, wd.before [.ref w, .int (nI a)].toArray s = true := fun wd h => atoms_spec (ws := wT yX1_into cX1_into 2 (some .long)) B.pre wd (List.mem_cons_of_mem _ h)
  have hown : s.vm.findClass RX1 = some m.cls := findClass_of_methodNamed B.named
  have hlocks := B.notSynchronized
  subst hsz
  have hW : PW dC dI L (AL L s.heap.size) s.heap S s.heap [] := ⟨hP, pl_self hD0, va_S.rf⟩
  have hFr : Fr kap [] S S := Fr.rf
  have hl := lv_entry ([.ref w, .int (nI a)]) (n := 2) (Nat.le_of_ble_eq_true rfl)
  rw [lg_entry_eq]
  generalize (lg_sl ([.ref w, .int (nI a)]) ++ List.replicate (2 - (lg_sl ([.ref w, .int (nI a)])).length) Slot.unset).toArray = ls at hl ⊢
  have hl : lv_has ls 2 [(0, .ref w), (1, .int (nI a))] := hl
  refine lv_aload_n hx hb dX1_into_0 rfl (lv_at hl 0 rfl) ?_
  obtain ⟨x_1, x_2, hS_w, hT_x_1, hb_x_2⟩ := hTy.k1 hT_w
  refine pl_get (ci := 1) (v := .ref x_1) (C := RX1) (T := TX1) (N := 2) hx hb hT iX1 hown hK hW hT_w.1 hS_w rfl 0 (by decide) w197 rfl dX1_into_1 ?_
  refine lv_iload_n hx hb dX1_into_4 rfl (lv_at hl 1 rfl) ?_
  refine vp_callSl (va_Run.run (va_runSN (As := [.ref x_1, .int (nI a)]) (rest := []) ⟨hx, hb, hml, hown, hT⟩ (s_sumIn29 l dC dI cy L kap pr S s.heap.size x_1 a hTy hT_x_1 (by omega)) ⟨va_cnB 2 hT (gT w755) rfl rfl rfl (hN (RX1, 55, yX11_sumIn, RX11) (by decide +kernel)) (hT _ w1) (by decide +kernel) ⟨(Nat.le_of_ble_eq_true rfl), (Nat.le_of_ble_eq_true rfl)⟩, (hT _ w754), trivial⟩ ⟨pcN.blind, pcN.pre hW.1 hK hW.2.1 hN (fun q h => absurd h List.not_mem_nil)⟩ rfl rfl hl.1 rfl (lv_room (Nat.le_of_ble_eq_true rfl)) dX1_into_5 ⟨(Nat.le_of_ble_eq_true rfl), (Nat.le_of_ble_eq_true rfl)⟩)) (fun r_3 hr_3 => ?_)
  exact W.lret (v := r_3) hx hb hr (fun t ht h9 => ⟨r_3, rfl, trivial, ht⟩) (fun q h => by cases h) dX1_into_8

set_option maxHeartbeats 4000000 in
set_option maxRecDepth 100000 in
theorem s_netOf (l : Launch) (dC : Nat → ClassId) (dI : Nat → Nat → Nat) (cy : Nat → ClassId) (L : List Nat) (kap : Nat → Nat) (pr : Pr) (S : Nat → va_E) (sz : Nat) (w : Nat) (a : Nat) (hTy : Ty cy L kap pr S) (hT_w : TK L kap w 1) (hb_a : a < 8) : Met l yX1_netOf (wT yX1_netOf cX1_netOf 2 (some .long)) ({ frames := 3, cells := 0, slots := 0, locals := 66 }) (pcN dC dI [.ref w, .int (nI a)] sz (va_pl L S) (cyT cy) NLs []) (vp_Sl (fun r => True)) 0 0 (fun _ => False) := by
  refine Met.ofW (cc := cX1_netOf) (maxL := 2) (ret := (some .long)) (by decide) rfl ?_
  intro p e s m args below meth c s₁ B hml hv
  obtain ⟨rfl, hsz, hP, hK, hD0, hN, -⟩ := hv
  have hx := B.exec
  have hb := B.bytes
  have hr := B.returns
  have hT : ∀ wd ∈ TB, wd.before [.ref w, .int (nI a)].toArray s = true := fun wd h => atoms_spec (ws := wT yX1_netOf cX1_netOf 2 (some .long)) B.pre wd (List.mem_cons_of_mem _ h)
  have hown : s.vm.findClass RX1 = some m.cls := findClass_of_methodNamed B.named
  have hlocks := B.notSynchronized
  subst hsz
  have hW : PW dC dI L (AL L s.heap.size) s.heap S s.heap [] := ⟨hP, pl_self hD0, va_S.rf⟩
  have hFr : Fr kap [] S S := Fr.rf
  have hl := lv_entry ([.ref w, .int (nI a)]) (n := 2) (Nat.le_of_ble_eq_true rfl)
  rw [lg_entry_eq]
  generalize (lg_sl ([.ref w, .int (nI a)]) ++ List.replicate (2 - (lg_sl ([.ref w, .int (nI a)])).length) Slot.unset).toArray = ls at hl ⊢
  have hl : lv_has ls 2 [(0, .ref w), (1, .int (nI a))] := hl
  refine lv_aload_n hx hb dX1_netOf_0 rfl (lv_at hl 0 rfl) ?_
  refine lv_iload_n hx hb dX1_netOf_1 rfl (lv_at hl 1 rfl) ?_
  obtain ⟨x_1, x_2, hS_w, hT_x_1, hb_x_2⟩ := hTy.k1 hT_w
  refine vp_callSl (va_Run.run (va_runV (As := [.int (nI a)]) (rest := []) ⟨hx, hb, hml, hown, hT⟩ (s_outOf l dC dI cy L kap pr S s.heap.size w a hTy hT_w (by omega)) (cwV 1 hT (gV w742 w743 w744 w8 w745) rfl rfl rfl (by decide +kernel) ⟨(Nat.le_of_ble_eq_true rfl), (Nat.le_of_ble_eq_true rfl)⟩) ⟨pcN.blind, pl_recv hK hW hT_w.1 hS_w rfl, pcN.pre hW.1 hK hW.2.1 hN (fun q h => absurd h List.not_mem_nil)⟩ rfl rfl hl.1 rfl (lv_room (Nat.le_of_ble_eq_true rfl)) dX1_netOf_2 ⟨(Nat.le_of_ble_eq_true rfl), (Nat.le_of_ble_eq_true rfl)⟩)) (fun r_3 hr_3 => ?_)
  refine lv_aload_n hx hb dX1_netOf_5 rfl (lv_at hl 0 rfl) ?_
  refine lv_iload_n hx hb dX1_netOf_6 rfl (lv_at hl 1 rfl) ?_
  refine vp_callSl (va_Run.run (va_runV (As := [.int (nI a)]) (rest := [.long r_3]) ⟨hx, hb, hml, hown, hT⟩ (s_into l dC dI cy L kap pr S s.heap.size w a hTy hT_w (by omega)) (cwV 1 hT (gV w749 w750 w751 w8 w752) rfl rfl rfl (by decide +kernel) ⟨(Nat.le_of_ble_eq_true rfl), (Nat.le_of_ble_eq_true rfl)⟩) ⟨pcN.blind, pl_recv hK hW hT_w.1 hS_w rfl, pcN.pre hW.1 hK hW.2.1 hN (fun q h => absurd h List.not_mem_nil)⟩ rfl rfl hl.1 rfl (lv_room (Nat.le_of_ble_eq_true rfl)) dX1_netOf_7 ⟨(Nat.le_of_ble_eq_true rfl), (Nat.le_of_ble_eq_true rfl)⟩)) (fun r_4 hr_4 => ?_)
  refine lv_lsub hx hb dX1_netOf_10 ?_
  refine lv_topl (fun z_5 ez_5 => ?_)
  exact W.lret (v := z_5) hx hb hr (fun t ht h9 => ⟨z_5, rfl, trivial, ht⟩) (fun q h => by cases h) dX1_netOf_11

set_option maxHeartbeats 4000000 in
set_option maxRecDepth 100000 in
theorem s_throughOf (l : Launch) (dC : Nat → ClassId) (dI : Nat → Nat → Nat) (cy : Nat → ClassId) (L : List Nat) (kap : Nat → Nat) (pr : Pr) (S : Nat → va_E) (sz : Nat) (w : Nat) (a : Nat) (hTy : Ty cy L kap pr S) (hT_w : TK L kap w 1) (hb_a : a < 8) : Met l yX1_throughOf (wT yX1_throughOf cX1_throughOf 2 (some .long)) ({ frames := 3, cells := 0, slots := 0, locals := 66 }) (pcN dC dI [.ref w, .int (nI a)] sz (va_pl L S) (cyT cy) NLs []) (vp_Sl (fun r => True)) 0 0 (fun _ => False) := by
  refine Met.ofW (cc := cX1_throughOf) (maxL := 2) (ret := (some .long)) (by decide) rfl ?_
  intro p e s m args below meth c s₁ B hml hv
  obtain ⟨rfl, hsz, hP, hK, hD0, hN, -⟩ := hv
  have hx := B.exec
  have hb := B.bytes
  have hr := B.returns
  have hT : ∀ wd ∈ TB, wd.before [.ref w, .int (nI a)].toArray s = true := fun wd h => atoms_spec (ws := wT yX1_throughOf cX1_throughOf 2 (some .long)) B.pre wd (List.mem_cons_of_mem _ h)
  have hown : s.vm.findClass RX1 = some m.cls := findClass_of_methodNamed B.named
  have hlocks := B.notSynchronized
  subst hsz
  have hW : PW dC dI L (AL L s.heap.size) s.heap S s.heap [] := ⟨hP, pl_self hD0, va_S.rf⟩
  have hFr : Fr kap [] S S := Fr.rf
  have hl := lv_entry ([.ref w, .int (nI a)]) (n := 2) (Nat.le_of_ble_eq_true rfl)
  rw [lg_entry_eq]
  generalize (lg_sl ([.ref w, .int (nI a)]) ++ List.replicate (2 - (lg_sl ([.ref w, .int (nI a)])).length) Slot.unset).toArray = ls at hl ⊢
  have hl : lv_has ls 2 [(0, .ref w), (1, .int (nI a))] := hl
  refine lv_aload_n hx hb dX1_throughOf_0 rfl (lv_at hl 0 rfl) ?_
  refine lv_iload_n hx hb dX1_throughOf_1 rfl (lv_at hl 1 rfl) ?_
  obtain ⟨x_1, x_2, hS_w, hT_x_1, hb_x_2⟩ := hTy.k1 hT_w
  refine vp_callSl (va_Run.run (va_runV (As := [.int (nI a)]) (rest := []) ⟨hx, hb, hml, hown, hT⟩ (s_outOf l dC dI cy L kap pr S s.heap.size w a hTy hT_w (by omega)) (cwV 1 hT (gV w742 w743 w744 w8 w745) rfl rfl rfl (by decide +kernel) ⟨(Nat.le_of_ble_eq_true rfl), (Nat.le_of_ble_eq_true rfl)⟩) ⟨pcN.blind, pl_recv hK hW hT_w.1 hS_w rfl, pcN.pre hW.1 hK hW.2.1 hN (fun q h => absurd h List.not_mem_nil)⟩ rfl rfl hl.1 rfl (lv_room (Nat.le_of_ble_eq_true rfl)) dX1_throughOf_2 ⟨(Nat.le_of_ble_eq_true rfl), (Nat.le_of_ble_eq_true rfl)⟩)) (fun r_3 hr_3 => ?_)
  refine lv_aload_n hx hb dX1_throughOf_5 rfl (lv_at hl 0 rfl) ?_
  refine lv_iload_n hx hb dX1_throughOf_6 rfl (lv_at hl 1 rfl) ?_
  refine vp_callSl (va_Run.run (va_runV (As := [.int (nI a)]) (rest := [.long r_3]) ⟨hx, hb, hml, hown, hT⟩ (s_into l dC dI cy L kap pr S s.heap.size w a hTy hT_w (by omega)) (cwV 1 hT (gV w749 w750 w751 w8 w752) rfl rfl rfl (by decide +kernel) ⟨(Nat.le_of_ble_eq_true rfl), (Nat.le_of_ble_eq_true rfl)⟩) ⟨pcN.blind, pl_recv hK hW hT_w.1 hS_w rfl, pcN.pre hW.1 hK hW.2.1 hN (fun q h => absurd h List.not_mem_nil)⟩ rfl rfl hl.1 rfl (lv_room (Nat.le_of_ble_eq_true rfl)) dX1_throughOf_7 ⟨(Nat.le_of_ble_eq_true rfl), (Nat.le_of_ble_eq_true rfl)⟩)) (fun r_4 hr_4 => ?_)
  refine va_mmin_long hx hb (hml.trans hl.1.symm) hown (hT _ w760) (hT _ w716) (hT _ w15) (hT _ w717) (Nat.le_of_ble_eq_true rfl) (Nat.le_of_ble_eq_true rfl) (Nat.le_of_ble_eq_true rfl) (Nat.le_of_ble_eq_true rfl) dX1_throughOf_10 ?_
  refine lv_topl (fun z_5 ez_5 => ?_)
  exact W.lret (v := z_5) hx hb hr (fun t ht h9 => ⟨z_5, rfl, trivial, ht⟩) (fun q h => by cases h) dX1_throughOf_13

set_option maxHeartbeats 4000000 in
set_option maxRecDepth 100000 in
theorem s_fsum (l : Launch) (dC : Nat → ClassId) (dI : Nat → Nat → Nat) (cy : Nat → ClassId) (L : List Nat) (kap : Nat → Nat) (pr : Pr) (S : Nat → va_E) (sz : Nat) (w : Nat) (hTy : Ty cy L kap pr S) (hT_w : TK L kap w 1) : Met l yX1_sum (wT yX1_sum cX1_sum 4 (some .long)) ({ frames := 0, cells := 0, slots := 0, locals := 0 }) (pcN dC dI [.ref w] sz (va_pl L S) (cyT cy) NLs []) (vp_Sl (fun r => True)) 0 0 (fun _ => False) := by
  refine Met.ofW (cc := cX1_sum) (maxL := 4) (ret := (some .long)) (by decide) rfl ?_
  intro p e s m args below meth c s₁ B hml hv
  obtain ⟨rfl, hsz, hP, hK, hD0, hN, -⟩ := hv
  have hx := B.exec
  have hb := B.bytes
  have hr := B.returns
  have hT : ∀ wd ∈ TB, wd.before [.ref w].toArray s = true := fun wd h => atoms_spec (ws := wT yX1_sum cX1_sum 4 (some .long)) B.pre wd (List.mem_cons_of_mem _ h)
  have hown : s.vm.findClass RX1 = some m.cls := findClass_of_methodNamed B.named
  have hlocks := B.notSynchronized
  subst hsz
  have hW : PW dC dI L (AL L s.heap.size) s.heap S s.heap [] := ⟨hP, pl_self hD0, va_S.rf⟩
  have hFr : Fr kap [] S S := Fr.rf
  have hl := lv_entry ([.ref w]) (n := 4) (Nat.le_of_ble_eq_true rfl)
  rw [lg_entry_eq]
  generalize (lg_sl ([.ref w]) ++ List.replicate (4 - (lg_sl ([.ref w])).length) Slot.unset).toArray = ls at hl ⊢
  have hl : lv_has ls 4 [(0, .ref w)] := hl
  refine lv_lconst (v := 0) hx hb dX1_sum_0 (by decide) ?_
  refine lv_lstore_n (lv' := [(1, .long 0), (0, .ref w)]) hx hb dX1_sum_1 rfl hl (by decide) rfl (fun ls hl => ?_)
  refine lv_iconst (v := 0) hx hb dX1_sum_2 (by decide) ?_
  refine lv_istore_n (lv' := [(3, .int 0), (1, .long 0), (0, .ref w)]) hx hb dX1_sum_3 rfl hl (by decide) rfl (fun ls hl => ?_)
  have loop : ∀ (fuel : Nat) (i : Nat) (sm : Int64) (ls : Array Slot), 65 - i < fuel → (i ≤ 64) → lv_has ls 4 [(3, .int (nI i)), (1, .long sm), (0, .ref w)] → W p l e (headSpec (wT yX1_sum cX1_sum 4 (some .long)) { frames := 0, cells := 0, slots := 0, locals := 0 }).room s m [.ref w].toArray below meth c s.heap [] 0 0 (MQ below (vp_Sl (fun r => True)) [.ref w].toArray s 0 0 (fun _ => False)) (F0 m 4 ls []) := by
    intro fuel
    induction fuel with
    | zero => intro i sm ls h; exact absurd h (Nat.not_lt_zero _)
    | succ fu4 ih4 =>
      intro i sm ls hm4 hb_i hl
      refine lv_iload_n hx hb dX1_sum_4 rfl (lv_at hl 0 rfl) ?_
      refine lv_bipush (v := 64) hx hb dX1_sum_5 (by decide) ?_
      refine lv_icmp_ge (tgt := 25) hx hb dX1_sum_7 (by decide) (fun c_7 => ?_) (fun c_7 => ?_)
      · have c_7 : 64 ≤ i := (nI_leI (a := 64) (b := i) (by omega) (by omega)).mp c_7
        refine lv_lload_n hx hb dX1_sum_25 rfl (lv_at hl 1 rfl) ?_
        exact W.lret (v := sm) hx hb hr (fun t ht h9 => ⟨sm, rfl, trivial, ht⟩) (fun q h => by cases h) dX1_sum_26
      · have c_7 : ¬ (64 ≤ i) := fun hh9 => c_7 ((nI_leI (a := 64) (b := i) (by omega) (by omega)).mpr hh9)
        refine lv_lload_n hx hb dX1_sum_10 rfl (lv_at hl 1 rfl) ?_
        refine lv_aload_n hx hb dX1_sum_11 rfl (lv_at hl 2 rfl) ?_
        obtain ⟨x_1, x_2, hS_w, hT_x_1, hb_x_2⟩ := hTy.k1 hT_w
        refine pl_get (ci := 1) (v := .ref x_1) (C := RX1) (T := TX1) (N := 2) hx hb hT iX1 hown hK hW hT_w.1 hS_w rfl 0 (by decide) w197 rfl dX1_sum_12 ?_
        refine lv_iload_n hx hb dX1_sum_15 rfl (lv_at hl 0 rfl) ?_
        obtain ⟨f_3, hS_x_1⟩ := hTy.k29 hT_x_1
        refine pl_lald hx hb hK hW hT_x_1.1 hS_x_1 (vp_in_nI (n := i) (N := 64) (by omega) (by omega)) dX1_sum_16 ?_
        refine lv_topl (fun y_4 ey_4 => ?_)
        refine lv_ladd hx hb dX1_sum_17 ?_
        refine lv_topl (fun z_5 ez_5 => ?_)
        refine lv_lstore_n (lv' := [(1, .long z_5), (3, .int (nI i)), (0, .ref w)]) hx hb dX1_sum_18 rfl hl (by decide) rfl (fun ls hl => ?_)
        refine lv_iinc (v := nI (i + 1)) (lv' := [(3, .int (nI (i + 1))), (1, .long z_5), (0, .ref w)]) hx hb dX1_sum_19 hl (k := 1) rfl (nI_add (i) 1) (by decide) rfl (fun ls hl => ?_)
        refine lv_goto (tgt := 4) hx hb dX1_sum_22 (by decide) ?_
        exact ih4 (i + 1) z_5 ls (by omega) (by omega) (lv_sub hl [0, 1, 2] rfl)
  exact loop ((65 - 0) + 1) 0 0 ls (Nat.lt_succ_self _) (by omega) (lv_sub hl [0, 1, 2] rfl)

set_option maxHeartbeats 4000000 in
set_option maxRecDepth 100000 in
theorem s_aboveZero (l : Launch) (dC : Nat → ClassId) (dI : Nat → Nat → Nat) (cy : Nat → ClassId) (L : List Nat) (kap : Nat → Nat) (pr : Pr) (S : Nat → va_E) (sz : Nat) (w : Nat) (hTy : Ty cy L kap pr S) (hT_w : TK L kap w 1) : Met l yX1_aboveZero (wT yX1_aboveZero cX1_aboveZero 1 (some .int)) ({ frames := 1, cells := 0, slots := 0, locals := 22 }) (pcN dC dI [.ref w] sz (va_pl L S) (cyT cy) NLs []) (vp_Si (fun r => True)) 0 0 (fun _ => False) := by
  refine Met.ofW (cc := cX1_aboveZero) (maxL := 1) (ret := (some .int)) (by decide) rfl ?_
  intro p e s m args below meth c s₁ B hml hv
  obtain ⟨rfl, hsz, hP, hK, hD0, hN, -⟩ := hv
  have hx := B.exec
  have hb := B.bytes
  have hr := B.returns
  have hT : ∀ wd ∈ TB, wd.before [.ref w].toArray s = true := fun wd h => atoms_spec (ws := wT yX1_aboveZero cX1_aboveZero 1 (some .int)) B.pre wd (List.mem_cons_of_mem _ h)
  have hown : s.vm.findClass RX1 = some m.cls := findClass_of_methodNamed B.named
  have hlocks := B.notSynchronized
  subst hsz
  have hW : PW dC dI L (AL L s.heap.size) s.heap S s.heap [] := ⟨hP, pl_self hD0, va_S.rf⟩
  have hFr : Fr kap [] S S := Fr.rf
  have hl := lv_entry ([.ref w]) (n := 1) (Nat.le_of_ble_eq_true rfl)
  rw [lg_entry_eq]
  generalize (lg_sl ([.ref w]) ++ List.replicate (1 - (lg_sl ([.ref w])).length) Slot.unset).toArray = ls at hl ⊢
  have hl : lv_has ls 1 [(0, .ref w)] := hl
  refine lv_aload_n hx hb dX1_aboveZero_0 rfl (lv_at hl 0 rfl) ?_
  obtain ⟨x_1, x_2, hS_w, hT_x_1, hb_x_2⟩ := hTy.k1 hT_w
  refine pl_get (ci := 1) (v := .ref x_1) (C := RX1) (T := TX1) (N := 2) hx hb hT iX1 hown hK hW hT_w.1 hS_w rfl 0 (by decide) w197 rfl dX1_aboveZero_1 ?_
  refine vp_callSi (va_Run.run (va_runSN (As := [.ref x_1]) (rest := []) ⟨hx, hb, hml, hown, hT⟩ (s_above29 l dC dI cy L kap pr S s.heap.size x_1 hTy hT_x_1) ⟨va_cnB 1 hT (gT w839) rfl rfl rfl (hN (RX1, 71, yX11_cellsAboveZero, RX11) (by decide +kernel)) (hT _ w1) (by decide +kernel) ⟨(Nat.le_of_ble_eq_true rfl), (Nat.le_of_ble_eq_true rfl)⟩, (hT _ w838), trivial⟩ ⟨pcN.blind, pcN.pre hW.1 hK hW.2.1 hN (fun q h => absurd h List.not_mem_nil)⟩ rfl rfl hl.1 rfl (lv_room (Nat.le_of_ble_eq_true rfl)) dX1_aboveZero_4 ⟨(Nat.le_of_ble_eq_true rfl), (Nat.le_of_ble_eq_true rfl)⟩)) (fun r_3 hr_3 => ?_)
  exact W.iret (v := r_3) hx hb hr (fun t ht h9 => ⟨r_3, rfl, trivial, ht⟩) (fun q h => by cases h) dX1_aboveZero_7

set_option maxHeartbeats 4000000 in
set_option maxRecDepth 100000 in
theorem s_netsAbove (l : Launch) (dC : Nat → ClassId) (dI : Nat → Nat → Nat) (cy : Nat → ClassId) (L : List Nat) (kap : Nat → Nat) (pr : Pr) (S : Nat → va_E) (sz : Nat) (w : Nat) (hTy : Ty cy L kap pr S) (hT_w : TK L kap w 1) : Met l yX1_netsAboveZero (wT yX1_netsAboveZero cX1_netsAboveZero 4 (some .long)) ({ frames := 4, cells := 0, slots := 0, locals := 87 }) (pcN dC dI [.ref w] sz (va_pl L S) (cyT cy) NLs []) (vp_Sl (fun r => True)) 0 0 (fun _ => False) := by
  refine Met.ofW (cc := cX1_netsAboveZero) (maxL := 4) (ret := (some .long)) (by decide) rfl ?_
  intro p e s m args below meth c s₁ B hml hv
  obtain ⟨rfl, hsz, hP, hK, hD0, hN, -⟩ := hv
  have hx := B.exec
  have hb := B.bytes
  have hr := B.returns
  have hT : ∀ wd ∈ TB, wd.before [.ref w].toArray s = true := fun wd h => atoms_spec (ws := wT yX1_netsAboveZero cX1_netsAboveZero 4 (some .long)) B.pre wd (List.mem_cons_of_mem _ h)
  have hown : s.vm.findClass RX1 = some m.cls := findClass_of_methodNamed B.named
  have hlocks := B.notSynchronized
  subst hsz
  have hW : PW dC dI L (AL L s.heap.size) s.heap S s.heap [] := ⟨hP, pl_self hD0, va_S.rf⟩
  have hFr : Fr kap [] S S := Fr.rf
  have hl := lv_entry ([.ref w]) (n := 4) (Nat.le_of_ble_eq_true rfl)
  rw [lg_entry_eq]
  generalize (lg_sl ([.ref w]) ++ List.replicate (4 - (lg_sl ([.ref w])).length) Slot.unset).toArray = ls at hl ⊢
  have hl : lv_has ls 4 [(0, .ref w)] := hl
  refine lv_lconst (v := 0) hx hb dX1_netsAboveZero_0 (by decide) ?_
  refine lv_lstore_n (lv' := [(1, .long 0), (0, .ref w)]) hx hb dX1_netsAboveZero_1 rfl hl (by decide) rfl (fun ls hl => ?_)
  refine lv_iconst (v := 0) hx hb dX1_netsAboveZero_2 (by decide) ?_
  refine lv_istore_n (lv' := [(3, .int 0), (1, .long 0), (0, .ref w)]) hx hb dX1_netsAboveZero_3 rfl hl (by decide) rfl (fun ls hl => ?_)
  have loop : ∀ (fuel : Nat) (i : Nat) (sm : Int64) (ls : Array Slot), 9 - i < fuel → (i ≤ 8) → lv_has ls 4 [(3, .int (nI i)), (1, .long sm), (0, .ref w)] → W p l e (headSpec (wT yX1_netsAboveZero cX1_netsAboveZero 4 (some .long)) { frames := 4, cells := 0, slots := 0, locals := 87 }).room s m [.ref w].toArray below meth c s.heap [] 0 0 (MQ below (vp_Sl (fun r => True)) [.ref w].toArray s 0 0 (fun _ => False)) (F0 m 4 ls []) := by
    intro fuel
    induction fuel with
    | zero => intro i sm ls h; exact absurd h (Nat.not_lt_zero _)
    | succ fu4 ih4 =>
      intro i sm ls hm4 hb_i hl
      refine lv_iload_n hx hb dX1_netsAboveZero_4 rfl (lv_at hl 0 rfl) ?_
      refine lv_aload_n hx hb dX1_netsAboveZero_5 rfl (lv_at hl 2 rfl) ?_
      obtain ⟨x_1, x_2, hS_w, hT_x_1, hb_x_2⟩ := hTy.k1 hT_w
      refine pl_get (ci := 1) (v := .int (nI x_2)) (C := RX1) (T := TX1) (N := 2) hx hb hT iX1 hown hK hW hT_w.1 hS_w rfl 1 (by decide) w203 rfl dX1_netsAboveZero_6 ?_
      refine lv_icmp_ge (tgt := 30) hx hb dX1_netsAboveZero_9 (by decide) (fun c_9 => ?_) (fun c_9 => ?_)
      · have c_9 : x_2 ≤ i := (nI_leI (a := x_2) (b := i) (by omega) (by omega)).mp c_9
        refine lv_lload_n hx hb dX1_netsAboveZero_30 rfl (lv_at hl 1 rfl) ?_
        exact W.lret (v := sm) hx hb hr (fun t ht h9 => ⟨sm, rfl, trivial, ht⟩) (fun q h => by cases h) dX1_netsAboveZero_31
      · have c_9 : ¬ (x_2 ≤ i) := fun hh9 => c_9 ((nI_leI (a := x_2) (b := i) (by omega) (by omega)).mpr hh9)
        refine lv_lload_n hx hb dX1_netsAboveZero_12 rfl (lv_at hl 1 rfl) ?_
        refine lv_lconst (v := 0) hx hb dX1_netsAboveZero_13 (by decide) ?_
        refine lv_aload_n hx hb dX1_netsAboveZero_14 rfl (lv_at hl 2 rfl) ?_
        refine lv_iload_n hx hb dX1_netsAboveZero_15 rfl (lv_at hl 0 rfl) ?_
        refine vp_callSl (va_Run.run (va_runV (As := [.int (nI i)]) (rest := [.long 0, .long sm]) ⟨hx, hb, hml, hown, hT⟩ (s_netOf l dC dI cy L kap pr S s.heap.size w i hTy hT_w (by omega)) (cwV 1 hT (gV w909 w739 w740 w8 w741) rfl rfl rfl (by decide +kernel) ⟨(Nat.le_of_ble_eq_true rfl), (Nat.le_of_ble_eq_true rfl)⟩) ⟨pcN.blind, pl_recv hK hW hT_w.1 hS_w rfl, pcN.pre hW.1 hK hW.2.1 hN (fun q h => absurd h List.not_mem_nil)⟩ rfl rfl hl.1 rfl (lv_room (Nat.le_of_ble_eq_true rfl)) dX1_netsAboveZero_16 ⟨(Nat.le_of_ble_eq_true rfl), (Nat.le_of_ble_eq_true rfl)⟩)) (fun r_3 hr_3 => ?_)
        refine va_mmax_long hx hb (hml.trans hl.1.symm) hown (hT _ w910) (hT _ w781) (hT _ w15) (hT _ w782) (Nat.le_of_ble_eq_true rfl) (Nat.le_of_ble_eq_true rfl) (Nat.le_of_ble_eq_true rfl) (Nat.le_of_ble_eq_true rfl) dX1_netsAboveZero_19 ?_
        refine lv_topl (fun z_4 ez_4 => ?_)
        refine lv_ladd hx hb dX1_netsAboveZero_22 ?_
        refine lv_topl (fun z_5 ez_5 => ?_)
        refine lv_lstore_n (lv' := [(1, .long z_5), (3, .int (nI i)), (0, .ref w)]) hx hb dX1_netsAboveZero_23 rfl hl (by decide) rfl (fun ls hl => ?_)
        refine lv_iinc (v := nI (i + 1)) (lv' := [(3, .int (nI (i + 1))), (1, .long z_5), (0, .ref w)]) hx hb dX1_netsAboveZero_24 hl (k := 1) rfl (nI_add (i) 1) (by decide) rfl (fun ls hl => ?_)
        refine lv_goto (tgt := 4) hx hb dX1_netsAboveZero_27 (by decide) ?_
        exact ih4 (i + 1) z_5 ls (by omega) (by omega) (lv_sub hl [0, 1, 2] rfl)
  exact loop ((9 - 0) + 1) 0 0 ls (Nat.lt_succ_self _) (by omega) (lv_sub hl [0, 1, 2] rfl)
