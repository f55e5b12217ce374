theorem w1499 : (.methodLink RX12 312 yX12_shifts : Cond) ∈ TB := mTB (List.mem_of_getElem? (i := 1499) (by decide +kernel)) (by decide +kernel)
theorem w1501 : (.instanceMethod yX12_shifts : Cond) ∈ TB := mTB (List.mem_of_getElem? (i := 1501) (by decide +kernel)) (by decide +kernel)
theorem w1502 : (.code yX12_shifts cX12_shifts 8 (some .int) : Cond) ∈ TB := mTB (List.mem_of_getElem? (i := 1502) (by decide +kernel)) (by decide +kernel)
theorem ws103 : (.selects RX12 yX12_shifts yX12_shifts : Cond) ∈ TB := mSel (y := yX12_shifts) (n := 32) (List.mem_of_getElem? (i := 103) (by decide +kernel)) (by decide +kernel)
theorem dX12_turns_0 : decode cX12_turns 0 = .ok (.iload_n 1, 1) := by decide +kernel
theorem dX12_turns_1 : decode cX12_turns 1 = .ok (.iload_n 2, 1) := by decide +kernel
theorem dX12_turns_2 : decode cX12_turns 2 = .ok (.invokestatic 229, 3) := by decide +kernel
theorem dX12_turns_5 : decode cX12_turns 5 = .ok (.istore 4, 2) := by decide +kernel
theorem dX12_turns_7 : decode cX12_turns 7 = .ok (.aload_n 0, 1) := by decide +kernel
theorem dX12_turns_8 : decode cX12_turns 8 = .ok (.getfield 61, 3) := by decide +kernel
theorem dX12_turns_11 : decode cX12_turns 11 = .ok (.iload 4, 2) := by decide +kernel
theorem dX12_turns_13 : decode cX12_turns 13 = .ok (.iconst 1, 1) := by decide +kernel
theorem dX12_turns_14 : decode cX12_turns 14 = .ok (.bastore, 1) := by decide +kernel
theorem dX12_turns_15 : decode cX12_turns 15 = .ok (.iload_n 3, 1) := by decide +kernel
theorem dX12_turns_16 : decode cX12_turns 16 = .ok (.ifCond .eq 41, 3) := by decide +kernel
theorem dX12_turns_19 : decode cX12_turns 19 = .ok (.aload_n 0, 1) := by decide +kernel
theorem dX12_turns_20 : decode cX12_turns 20 = .ok (.getfield 49, 3) := by decide +kernel
theorem dX12_turns_23 : decode cX12_turns 23 = .ok (.iload 4, 2) := by decide +kernel
theorem dX12_turns_25 : decode cX12_turns 25 = .ok (.dup2, 1) := by decide +kernel
theorem dX12_turns_26 : decode cX12_turns 26 = .ok (.iaload, 1) := by decide +kernel
theorem dX12_turns_27 : decode cX12_turns 27 = .ok (.aload_n 0, 1) := by decide +kernel
theorem dX12_turns_28 : decode cX12_turns 28 = .ok (.iload_n 2, 1) := by decide +kernel
theorem dX12_turns_29 : decode cX12_turns 29 = .ok (.bipush 8, 2) := by decide +kernel
theorem dX12_turns_31 : decode cX12_turns 31 = .ok (.iadd, 1) := by decide +kernel
theorem dX12_turns_32 : decode cX12_turns 32 = .ok (.iload_n 1, 1) := by decide +kernel
theorem dX12_turns_33 : decode cX12_turns 33 = .ok (.iconst (-1), 1) := by decide +kernel
theorem dX12_turns_34 : decode cX12_turns 34 = .ok (.aload_n 0, 1) := by decide +kernel
theorem dX12_turns_35 : decode cX12_turns 35 = .ok (.getfield 46, 3) := by decide +kernel
theorem dX12_turns_38 : decode cX12_turns 38 = .ok (.iload 4, 2) := by decide +kernel
theorem dX12_turns_40 : decode cX12_turns 40 = .ok (.iaload, 1) := by decide +kernel
theorem dX12_turns_41 : decode cX12_turns 41 = .ok (.aload_n 0, 1) := by decide +kernel
theorem dX12_turns_42 : decode cX12_turns 42 = .ok (.getfield 49, 3) := by decide +kernel
theorem dX12_turns_45 : decode cX12_turns 45 = .ok (.iload 4, 2) := by decide +kernel
theorem dX12_turns_47 : decode cX12_turns 47 = .ok (.iaload, 1) := by decide +kernel
theorem dX12_turns_48 : decode cX12_turns 48 = .ok (.isub, 1) := by decide +kernel
theorem dX12_turns_49 : decode cX12_turns 49 = .ok (.invokevirtual 312, 3) := by decide +kernel
theorem dX12_turns_52 : decode cX12_turns 52 = .ok (.iadd, 1) := by decide +kernel
theorem dX12_turns_53 : decode cX12_turns 53 = .ok (.iastore, 1) := by decide +kernel
theorem dX12_turns_54 : decode cX12_turns 54 = .ok (.goto 30, 3) := by decide +kernel
theorem dX12_turns_57 : decode cX12_turns 57 = .ok (.aload_n 0, 1) := by decide +kernel
theorem dX12_turns_58 : decode cX12_turns 58 = .ok (.getfield 49, 3) := by decide +kernel
theorem dX12_turns_61 : decode cX12_turns 61 = .ok (.iload 4, 2) := by decide +kernel
theorem dX12_turns_63 : decode cX12_turns 63 = .ok (.dup2, 1) := by decide +kernel
theorem dX12_turns_64 : decode cX12_turns 64 = .ok (.iaload, 1) := by decide +kernel
theorem dX12_turns_65 : decode cX12_turns 65 = .ok (.aload_n 0, 1) := by decide +kernel
theorem dX12_turns_66 : decode cX12_turns 66 = .ok (.iload_n 1, 1) := by decide +kernel
theorem dX12_turns_67 : decode cX12_turns 67 = .ok (.iload_n 2, 1) := by decide +kernel
theorem dX12_turns_68 : decode cX12_turns 68 = .ok (.bipush 8, 2) := by decide +kernel
theorem dX12_turns_70 : decode cX12_turns 70 = .ok (.iadd, 1) := by decide +kernel
theorem dX12_turns_71 : decode cX12_turns 71 = .ok (.iconst 1, 1) := by decide +kernel
theorem dX12_turns_72 : decode cX12_turns 72 = .ok (.aload_n 0, 1) := by decide +kernel
theorem dX12_turns_73 : decode cX12_turns 73 = .ok (.getfield 49, 3) := by decide +kernel
theorem dX12_turns_76 : decode cX12_turns 76 = .ok (.iload 4, 2) := by decide +kernel
theorem dX12_turns_78 : decode cX12_turns 78 = .ok (.iaload, 1) := by decide +kernel
theorem dX12_turns_79 : decode cX12_turns 79 = .ok (.invokevirtual 312, 3) := by decide +kernel
theorem dX12_turns_82 : decode cX12_turns 82 = .ok (.isub, 1) := by decide +kernel
theorem dX12_turns_83 : decode cX12_turns 83 = .ok (.iastore, 1) := by decide +kernel
theorem dX12_turns_84 : decode cX12_turns 84 = .ok (.return_, 1) := by decide +kernel
theorem stp_fix2 {fx its its2 bn my th : Nat → Int32} {p q a b : Nat} (ha : a < 8) (hb : b < 8) (hi : ∀ j, j ≠ 8 * a + b → its2 j = its j) (hk : ¬ fx (8 * a + b) = 0) (h : 0 < stpF fx its2 bn my th p q) : 0 < stpF fx its bn my th p q := by
  have e : upd fx (8 * a + b) (fx (8 * a + b)) = fx := by
    funext j
    by_cases c : j = 8 * a + b
    · rw [c, pk_us]
    · rw [pk_un c]
  exact stp_fix ha hb hi hk (by rw [e]; exact h)
theorem POT_sub {op op' : Nat → Nat → Prop} (h : ∃ K : Nat → Int, POT op K) (hs : ∀ p q, op' p q → op p q) : ∃ K : Nat → Int, POT op' K := h.imp (fun K hK p q hp hq ho => hK p q hp hq (hs p q ho))
set_option maxHeartbeats 4000000 in
set_option maxRecDepth 100000 in
theorem m_turns (l : Launch) (dC : Nat → ClassId) (dI : Nat → Nat → Nat) (cy : Nat → ClassId) (L : List Nat) (kap : Nat → Nat) (pr : Pr) (S : Nat → va_E) (sz : Nat) (o : Nat) (ta : Nat) (tb : Nat) (hi : Int32) (hTy : Ty cy L kap pr S) (hT_o : TK L kap o 12) (hb_ta : ta < 8) (hb_tb : tb < 8) (hab : ta ≠ tb) (hpk : ∃ K : Nat → Int, POT (fun p q => 0 < STP S o p q) K) : Met l yX12_turns (wT yX12_turns cX12_turns 5 none) ({ frames := 4, cells := 0, slots := 0, locals := 98 }) (pcN dC dI [.ref o, .int (nI ta), .int (nI tb), .int hi] sz (va_pl L S) (cyT cy) NLs []) (va_Qv (fun S' => Ty cy L kap pr S' ∧ Fr kap [60, 62, 64, 65, 66] S S' ∧ ((∃ K : Nat → Int, POT (fun p q => 0 < STP S' o p q) K) ∧ ∀ a, a < 8 → fld S' o 22 (8 * a + a) = fld S o 22 (8 * a + a))) (fun S' t => pB dC dI (AL L sz) (va_pl L S') (cyT cy) t) (AL L sz)) 0 0 (AL L sz) := by
  refine Met.ofW (cc := cX12_turns) (maxL := 5) (ret := none) (by decide) rfl ?_
  intro p e s m args below meth c s₁ B hml hv
  obtain ⟨rfl, hsz, hP, hK, hD0, hN, -⟩ := hv
  have hx := B.exec
  have hb := B.bytes
  have hr := B.returns
  have hT : ∀ wd ∈ TB, wd.before [.ref o, .int (nI ta), .int (nI tb), .int hi].toArray s = true := fun wd h => atoms_spec (ws := wT yX12_turns cX12_turns 5 none) B.pre wd (List.mem_cons_of_mem _ h)
  have hown : s.vm.findClass RX12 = some m.cls := findClass_of_methodNamed B.named
  have hlocks := B.notSynchronized
  subst hsz
  have hW : PW dC dI L (AL L s.heap.size) s.heap S s.heap [] := ⟨hP, pl_self hD0, va_S.rf⟩
  have hA0 : ∀ q, q ∈ L → AL L s.heap.size q := fun _ h => Or.inl h
  have hA : ∀ q, s.heap.size ≤ q → AL L s.heap.size q := fun _ h => Or.inr h
  have hFr : Fr kap [60, 62, 64, 65, 66] S S := Fr.rf
  have hl := lv_entry ([.ref o, .int (nI ta), .int (nI tb), .int hi]) (n := 5) (Nat.le_of_ble_eq_true rfl)
  rw [lg_entry_eq]
  generalize (lg_sl ([.ref o, .int (nI ta), .int (nI tb), .int hi]) ++ List.replicate (5 - (lg_sl ([.ref o, .int (nI ta), .int (nI tb), .int hi])).length) Slot.unset).toArray = ls at hl ⊢
  have hl : lv_has ls 5 [(0, .ref o), (1, .int (nI ta)), (2, .int (nI tb)), (3, .int hi)] := hl
  obtain ⟨x_1, x_2, x_3, x_4, x_5, x_6, x_7, x_8, x_9, x_10, x_11, x_12, x_13, x_14, x_15, x_16, x_17, x_18, x_19, x_20, x_21, x_22, x_23, x_24, x_25, x_26, x_27, x_28, x_29, x_30, x_31, hS_o, hT_x_1, hT_x_2, hT_x_3, hT_x_4, hT_x_5, hb_x_6, hb_x_7, hb_x_8, hT_x_10, hb_q2, hb_x_11, hb_x_12, hT_x_17, hT_x_18, hb_x_19, hT_x_20, hT_x_21, hT_x_22, hT_x_23, hT_x_24, hT_x_25, hT_x_26, hT_x_27, hT_x_28, hT_x_29, hT_x_30, hb_x_31⟩ := hTy.k12 hT_o
  have hb_q2 : pr.2 ≤ 900 := hb_q2
  have hS_o : S o = .inr (12, [.ref x_1, .ref x_2, .ref x_3, .ref x_4, .ref x_5, .int (nI x_6), .int (nI x_7), .int (nI x_8), .int x_9, .ref x_10, .int (nI (pr.2)), .int (nI x_11), .int (nI x_12), .int x_13, .int x_14, .int x_15, .int x_16, .ref x_17, .ref x_18, .int (nI x_19), .ref x_20, .ref x_21, .ref x_22, .ref x_23, .ref x_24, .ref x_25, .ref x_26, .ref x_27, .ref x_28, .ref x_29, .ref x_30, .int (nI x_31)]) := hS_o
  obtain ⟨f_32, hS_x_26⟩ := hTy.k64 hT_x_26
  obtain ⟨f_33, hS_x_22⟩ := hTy.k60 hT_x_22
  obtain ⟨f_34, hS_x_21⟩ := hTy.k59 hT_x_21
  obtain ⟨f_35, hS_x_23⟩ := hTy.k61 hT_x_23
  obtain ⟨f_36, hS_x_24⟩ := hTy.k62 hT_x_24
  have hSTP0 : ∀ p q, STP S o p q = stpF f_32 f_33 f_34 f_35 f_36 p q := fun p q => (STPe hS_o rfl rfl rfl rfl rfl hS_x_26 hS_x_22 hS_x_21 hS_x_23 hS_x_24)
  have hits : fld S o 22 = f_33 := fld_i hS_o rfl hS_x_22
  refine lv_iload_n hx hb dX12_turns_0 rfl (lv_at hl 1 rfl) ?_
  refine lv_iload_n hx hb dX12_turns_1 rfl (lv_at hl 2 rfl) ?_
  refine vp_callSi (va_Run.run (va_runS (As := [.int (nI ta), .int (nI tb)]) (rest := []) ⟨hx, hb, hml, hown, hT⟩ (m_couple l dC dI s.heap.size ta tb (by omega) (by omega)) (va_cwS 2 hT (gS w1348 w1349 w14 w1350) rfl rfl rfl (by decide +kernel) ⟨(Nat.le_of_ble_eq_true rfl), (Nat.le_of_ble_eq_true rfl)⟩) ⟨pcW.blind, pcW.pre (va_P0 _ _ _) (hK.sub (tys' := []) [] rfl) (va_D0 (fun _ => True))⟩ rfl rfl hl.1 rfl (lv_room (Nat.le_of_ble_eq_true rfl)) dX12_turns_2 ⟨(Nat.le_of_ble_eq_true rfl), (Nat.le_of_ble_eq_true rfl)⟩)) (fun r_37 hr_37 => ?_)
  obtain rfl : r_37 = nI (8 * ta + tb) := hr_37
  refine lv_istore (lv' := [(4, .int (nI (8 * ta + tb))), (0, .ref o), (1, .int (nI ta)), (2, .int (nI tb)), (3, .int hi)]) hx hb dX12_turns_5 hl (by decide) rfl (fun ls hl => ?_)
  refine lv_aload_n hx hb dX12_turns_7 rfl (lv_at hl 1 rfl) ?_
  refine pl_get (ci := 12) (v := .ref x_26) (C := RX12) (T := TX12) (N := 32) hx hb hT iX12 hown hK hW hT_o.1 hS_o rfl 26 (by decide) w1108 rfl dX12_turns_8 ?_
  refine lv_iload hx hb dX12_turns_11 (lv_at hl 0 rfl) ?_
  refine lv_iconst (v := 1) hx hb dX12_turns_13 (by decide) ?_
  refine pl_zast hx hb hK hW hT_x_26.1 hS_x_26 (vp_in_nI (n := 8 * ta + tb) (N := 64) (by omega) (by omega)) dX12_turns_14 (fun H locs f_39 S_38 ef_f_39 e1 hW => ?_)
  have hTy := hTy.u64 e1 hT_x_26 ⟨f_39, rfl⟩
  have hS_o := un e1 hT_o hT_x_26 (by decide) hS_o
  have hS_x_22 := un e1 hT_x_22 hT_x_26 (by decide) hS_x_22
  have hS_x_21 := un e1 hT_x_21 hT_x_26 (by decide) hS_x_21
  have hS_x_23 := un e1 hT_x_23 hT_x_26 (by decide) hS_x_23
  have hS_x_24 := un e1 hT_x_24 hT_x_26 (by decide) hS_x_24
  have hFr := uf hFr e1 hT_x_26 (by decide) (by decide)
  have hS_x_26 := us e1
  have hpk1 : ∃ K : Nat → Int, POT (fun p q => 0 < STP S_38 o p q) K := POT_sub hpk (fun p q h => by show 0 < STP S o p q; rw [hSTP0]; have h : 0 < STP S_38 o p q := h; rw [(STPe hS_o rfl rfl rfl rfl rfl hS_x_26 hS_x_22 hS_x_21 hS_x_23 hS_x_24), ef_f_39, nI_clamp (by omega)] at h; exact stp_fix (by omega) (by omega) (fun _ _ => rfl) (by decide) h)
  have hkf : ¬ f_39 (8 * ta + tb) = 0 := by rw [ef_f_39, nI_clamp (by omega), pk_us]; decide
  refine lv_iload_n hx hb dX12_turns_15 rfl (lv_at hl 4 rfl) ?_
  refine lv_if_eq (tgt := 57) hx hb dX12_turns_16 (by decide) (fun c_16 => ?_) (fun c_16 => ?_)
  · refine lv_aload_n hx hb dX12_turns_57 rfl (lv_at hl 1 rfl) ?_
    refine pl_get (ci := 12) (v := .ref x_22) (C := RX12) (T := TX12) (N := 32) hx hb hT iX12 hown hK hW hT_o.1 hS_o rfl 22 (by decide) w1104 rfl dX12_turns_58 ?_
    refine lv_iload hx hb dX12_turns_61 (lv_at hl 0 rfl) ?_
    refine lv_dup2_11 hx hb dX12_turns_63 rfl rfl ?_
    refine pl_iald hx hb hK hW hT_x_22.1 hS_x_22 (vp_in_nI (n := 8 * ta + tb) (N := 64) (by omega) (by omega)) dX12_turns_64 ?_
    refine lv_topi (fun y_40 ey_40 => ?_)
    refine lv_aload_n hx hb dX12_turns_65 rfl (lv_at hl 1 rfl) ?_
    refine lv_iload_n hx hb dX12_turns_66 rfl (lv_at hl 2 rfl) ?_
    refine lv_iload_n hx hb dX12_turns_67 rfl (lv_at hl 3 rfl) ?_
    refine lv_bipush (v := 8) hx hb dX12_turns_68 (by decide) ?_
    refine lv_iadd hx hb dX12_turns_70 ?_
    refine lv_topi (fun z_41 ez_41 => ?_)
    obtain rfl : z_41 = nI (tb + 8) := ez_41.trans (nI_add (tb) (8))
    refine lv_iconst (v := 1) hx hb dX12_turns_71 (by decide) ?_
    refine lv_aload_n hx hb dX12_turns_72 rfl (lv_at hl 1 rfl) ?_
    refine pl_get (ci := 12) (v := .ref x_22) (C := RX12) (T := TX12) (N := 32) hx hb hT iX12 hown hK hW hT_o.1 hS_o rfl 22 (by decide) w1104 rfl dX12_turns_73 ?_
    refine lv_iload hx hb dX12_turns_76 (lv_at hl 0 rfl) ?_
    refine pl_iald hx hb hK hW hT_x_22.1 hS_x_22 (vp_in_nI (n := 8 * ta + tb) (N := 64) (by omega) (by omega)) dX12_turns_78 ?_
    refine lv_topi (fun y_42 ey_42 => ?_)
    have h22a : fld S_38 o 22 = f_33 := fld_i hS_o rfl hS_x_22
    refine pl_calli (va_runV (As := [.int (nI ta), .int (nI (tb + 8)), .int 1, .int y_42]) (rest := [.int y_40, .int (nI (8 * ta + tb)), .ref x_22]) ⟨hx, hb, hml, hown, hT⟩ (m_shifts l dC dI cy L kap pr S_38 H.size o ta (tb + 8) 1 y_42 hTy hT_o (by omega) (by omega) hpk1) (cwV 4 hT (gV w1499 w1501 ws103 w14 w1502) rfl rfl rfl (by decide +kernel) ⟨(Nat.le_of_ble_eq_true rfl), (Nat.le_of_ble_eq_true rfl)⟩) ⟨pcN.blind, pl_recv hK hW hT_o.1 hS_o rfl, pcN.pre hW.1 hK hW.2.1 hN (fun q h => absurd h List.not_mem_nil)⟩ rfl rfl hl.1 rfl (lv_room (Nat.le_of_ble_eq_true rfl)) dX12_turns_79 ⟨(Nat.le_of_ble_eq_true rfl), (Nat.le_of_ble_eq_true rfl)⟩) hW hA0 hA (fun r_44 S_43 H locs hrel hW => ?_)
    obtain ⟨hTy, hF1, hx1⟩ := hrel
    have hFr := hFr.tr hF1 (by decide)
    have hS_o := hF1.at hT_o (by decide) hS_o
    have hS_x_26 := hF1.at hT_x_26 (by decide) hS_x_26
    have hS_x_21 := hF1.at hT_x_21 (by decide) hS_x_21
    have hS_x_23 := hF1.at hT_x_23 (by decide) hS_x_23
    obtain ⟨hpk2, hdz2⟩ := hx1
    obtain ⟨f_45, hS_x_22⟩ := hTy.k60 hT_x_22
    obtain ⟨f_46, hS_x_24⟩ := hTy.k62 hT_x_24
    have hSTP2 : ∀ p q, STP S_43 o p q = stpF f_39 f_45 f_34 f_35 f_46 p q := fun p q => (STPe hS_o rfl rfl rfl rfl rfl hS_x_26 hS_x_22 hS_x_21 hS_x_23 hS_x_24)
    have hd2 : ∀ a, a < 8 → f_45 (8 * a + a) = fld S o 22 (8 * a + a) := fun a ha => by have q := hdz2 a ha; rw [fld_i (S := S_43) hS_o rfl hS_x_22] at q; exact q.trans (by rw [h22a, hits])
    refine lv_isub hx hb dX12_turns_82 ?_
    refine lv_topi (fun z_47 ez_47 => ?_)
    refine pl_iast hx hb hK hW hT_x_22.1 hS_x_22 (vp_in_nI (n := 8 * ta + tb) (N := 64) (by omega) (by omega)) dX12_turns_83 (fun H locs f_49 S_48 ef_f_49 e1 hW => ?_)
    have hTy := hTy.u60 e1 hT_x_22 ⟨f_49, rfl⟩
    have hS_o := un e1 hT_o hT_x_22 (by decide) hS_o
    have hS_x_26 := un e1 hT_x_26 hT_x_22 (by decide) hS_x_26
    have hS_x_21 := un e1 hT_x_21 hT_x_22 (by decide) hS_x_21
    have hS_x_23 := un e1 hT_x_23 hT_x_22 (by decide) hS_x_23
    have hS_x_24 := un e1 hT_x_24 hT_x_22 (by decide) hS_x_24
    have hFr := uf hFr e1 hT_x_22 (by decide) (by decide)
    have hS_x_22 := us e1
    have hpk3 : ∃ K : Nat → Int, POT (fun p q => 0 < STP S_48 o p q) K := POT_sub hpk2 (fun p q h => by show 0 < STP _ o p q; rw [hSTP2]; have h : 0 < STP S_48 o p q := h; rw [(STPe hS_o rfl rfl rfl rfl rfl hS_x_26 hS_x_22 hS_x_21 hS_x_23 hS_x_24)] at h; exact stp_fix2 (a := ta) (b := tb) (by omega) (by omega) (fun j hj => by rw [ef_f_49, nI_clamp (by omega), pk_un hj]) hkf h)
    have hd3 : ∀ a, a < 8 → f_49 (8 * a + a) = fld S o 22 (8 * a + a) := fun a ha => by rw [ef_f_49, nI_clamp (by omega), pk_un (by omega)]; exact hd2 a ha
    exact W.vret hx hb hr (fun t ht h9 => ⟨⟨S_48, rfl, ⟨hTy, hFr, ⟨hpk3, fun a ha => by rw [fld_i hS_o rfl hS_x_22]; exact hd3 a ha⟩⟩, by rw [ht]; exact hW.1, va_K.moved h9.alike hK, hW.2.1⟩, hW.2.2.F ht⟩) hW.2.2.2.2 dX12_turns_84
  · refine lv_aload_n hx hb dX12_turns_19 rfl (lv_at hl 1 rfl) ?_
    refine pl_get (ci := 12) (v := .ref x_22) (C := RX12) (T := TX12) (N := 32) hx hb hT iX12 hown hK hW hT_o.1 hS_o rfl 22 (by decide) w1104 rfl dX12_turns_20 ?_
    refine lv_iload hx hb dX12_turns_23 (lv_at hl 0 rfl) ?_
    refine lv_dup2_11 hx hb dX12_turns_25 rfl rfl ?_
    refine pl_iald hx hb hK hW hT_x_22.1 hS_x_22 (vp_in_nI (n := 8 * ta + tb) (N := 64) (by omega) (by omega)) dX12_turns_26 ?_
    refine lv_topi (fun y_50 ey_50 => ?_)
    refine lv_aload_n hx hb dX12_turns_27 rfl (lv_at hl 1 rfl) ?_
    refine lv_iload_n hx hb dX12_turns_28 rfl (lv_at hl 3 rfl) ?_
    refine lv_bipush (v := 8) hx hb dX12_turns_29 (by decide) ?_
    refine lv_iadd hx hb dX12_turns_31 ?_
    refine lv_topi (fun z_51 ez_51 => ?_)
    obtain rfl : z_51 = nI (tb + 8) := ez_51.trans (nI_add (tb) (8))
    refine lv_iload_n hx hb dX12_turns_32 rfl (lv_at hl 2 rfl) ?_
    refine lv_iconst (v := (-1)) hx hb dX12_turns_33 (by decide) ?_
    refine lv_aload_n hx hb dX12_turns_34 rfl (lv_at hl 1 rfl) ?_
    refine pl_get (ci := 12) (v := .ref x_21) (C := RX12) (T := TX12) (N := 32) hx hb hT iX12 hown hK hW hT_o.1 hS_o rfl 21 (by decide) w1103 rfl dX12_turns_35 ?_
    refine lv_iload hx hb dX12_turns_38 (lv_at hl 0 rfl) ?_
    refine pl_iald hx hb hK hW hT_x_21.1 hS_x_21 (vp_in_nI (n := 8 * ta + tb) (N := 64) (by omega) (by omega)) dX12_turns_40 ?_
    refine lv_topi (fun y_52 ey_52 => ?_)
    refine lv_aload_n hx hb dX12_turns_41 rfl (lv_at hl 1 rfl) ?_
    refine pl_get (ci := 12) (v := .ref x_22) (C := RX12) (T := TX12) (N := 32) hx hb hT iX12 hown hK hW hT_o.1 hS_o rfl 22 (by decide) w1104 rfl dX12_turns_42 ?_
    refine lv_iload hx hb dX12_turns_45 (lv_at hl 0 rfl) ?_
    refine pl_iald hx hb hK hW hT_x_22.1 hS_x_22 (vp_in_nI (n := 8 * ta + tb) (N := 64) (by omega) (by omega)) dX12_turns_47 ?_
    refine lv_topi (fun y_53 ey_53 => ?_)
    refine lv_isub hx hb dX12_turns_48 ?_
    refine lv_topi (fun z_54 ez_54 => ?_)
    have h22a : fld S_38 o 22 = f_33 := fld_i hS_o rfl hS_x_22
    refine pl_calli (va_runV (As := [.int (nI (tb + 8)), .int (nI ta), .int (-1), .int z_54]) (rest := [.int y_50, .int (nI (8 * ta + tb)), .ref x_22]) ⟨hx, hb, hml, hown, hT⟩ (m_shifts l dC dI cy L kap pr S_38 H.size o (tb + 8) ta (-1) z_54 hTy hT_o (by omega) (by omega) hpk1) (cwV 4 hT (gV w1499 w1501 ws103 w14 w1502) rfl rfl rfl (by decide +kernel) ⟨(Nat.le_of_ble_eq_true rfl), (Nat.le_of_ble_eq_true rfl)⟩) ⟨pcN.blind, pl_recv hK hW hT_o.1 hS_o rfl, pcN.pre hW.1 hK hW.2.1 hN (fun q h => absurd h List.not_mem_nil)⟩ rfl rfl hl.1 rfl (lv_room (Nat.le_of_ble_eq_true rfl)) dX12_turns_49 ⟨(Nat.le_of_ble_eq_true rfl), (Nat.le_of_ble_eq_true rfl)⟩) hW hA0 hA (fun r_56 S_55 H locs hrel hW => ?_)
    obtain ⟨hTy, hF1, hx1⟩ := hrel
    have hFr := hFr.tr hF1 (by decide)
    have hS_o := hF1.at hT_o (by decide) hS_o
    have hS_x_26 := hF1.at hT_x_26 (by decide) hS_x_26
    have hS_x_21 := hF1.at hT_x_21 (by decide) hS_x_21
    have hS_x_23 := hF1.at hT_x_23 (by decide) hS_x_23
    obtain ⟨hpk2, hdz2⟩ := hx1
    obtain ⟨f_57, hS_x_22⟩ := hTy.k60 hT_x_22
    obtain ⟨f_58, hS_x_24⟩ := hTy.k62 hT_x_24
    have hSTP2 : ∀ p q, STP S_55 o p q = stpF f_39 f_57 f_34 f_35 f_58 p q := fun p q => (STPe hS_o rfl rfl rfl rfl rfl hS_x_26 hS_x_22 hS_x_21 hS_x_23 hS_x_24)
    have hd2 : ∀ a, a < 8 → f_57 (8 * a + a) = fld S o 22 (8 * a + a) := fun a ha => by have q := hdz2 a ha; rw [fld_i (S := S_55) hS_o rfl hS_x_22] at q; exact q.trans (by rw [h22a, hits])
    refine lv_iadd hx hb dX12_turns_52 ?_
    refine lv_topi (fun z_59 ez_59 => ?_)
    refine pl_iast hx hb hK hW hT_x_22.1 hS_x_22 (vp_in_nI (n := 8 * ta + tb) (N := 64) (by omega) (by omega)) dX12_turns_53 (fun H locs f_61 S_60 ef_f_61 e1 hW => ?_)
    have hTy := hTy.u60 e1 hT_x_22 ⟨f_61, rfl⟩
    have hS_o := un e1 hT_o hT_x_22 (by decide) hS_o
    have hS_x_26 := un e1 hT_x_26 hT_x_22 (by decide) hS_x_26
    have hS_x_21 := un e1 hT_x_21 hT_x_22 (by decide) hS_x_21
    have hS_x_23 := un e1 hT_x_23 hT_x_22 (by decide) hS_x_23
    have hS_x_24 := un e1 hT_x_24 hT_x_22 (by decide) hS_x_24
    have hFr := uf hFr e1 hT_x_22 (by decide) (by decide)
    have hS_x_22 := us e1
    have hpk3 : ∃ K : Nat → Int, POT (fun p q => 0 < STP S_60 o p q) K := POT_sub hpk2 (fun p q h => by show 0 < STP _ o p q; rw [hSTP2]; have h : 0 < STP S_60 o p q := h; rw [(STPe hS_o rfl rfl rfl rfl rfl hS_x_26 hS_x_22 hS_x_21 hS_x_23 hS_x_24)] at h; exact stp_fix2 (a := ta) (b := tb) (by omega) (by omega) (fun j hj => by rw [ef_f_61, nI_clamp (by omega), pk_un hj]) hkf h)
    have hd3 : ∀ a, a < 8 → f_61 (8 * a + a) = fld S o 22 (8 * a + a) := fun a ha => by rw [ef_f_61, nI_clamp (by omega), pk_un (by omega)]; exact hd2 a ha
    refine lv_goto (tgt := 84) hx hb dX12_turns_54 (by decide) ?_
    exact W.vret hx hb hr (fun t ht h9 => ⟨⟨S_60, rfl, ⟨hTy, hFr, ⟨hpk3, fun a ha => by rw [fld_i hS_o rfl hS_x_22]; exact hd3 a ha⟩⟩, by rw [ht]; exact hW.1, va_K.moved h9.alike hK, hW.2.1⟩, hW.2.2.F ht⟩) hW.2.2.2.2 dX12_turns_84

