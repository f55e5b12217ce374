theorem dX12_sends_0 : decode cX12_sends 0 = .ok (.iload_n 1, 1) := by decide +kernel
theorem dX12_sends_1 : decode cX12_sends 1 = .ok (.istore_n 3, 1) := by decide +kernel
theorem dX12_sends_2 : decode cX12_sends 2 = .ok (.aload_n 0, 1) := by decide +kernel
theorem dX12_sends_3 : decode cX12_sends 3 = .ok (.getfield 68, 3) := by decide +kernel
theorem dX12_sends_6 : decode cX12_sends 6 = .ok (.iload_n 3, 1) := by decide +kernel
theorem dX12_sends_7 : decode cX12_sends 7 = .ok (.iaload, 1) := by decide +kernel
theorem dX12_sends_8 : decode cX12_sends 8 = .ok (.iconst (-1), 1) := by decide +kernel
theorem dX12_sends_9 : decode cX12_sends 9 = .ok (.if_icmp .eq 112, 3) := by decide +kernel
theorem dX12_sends_12 : decode cX12_sends 12 = .ok (.aload_n 0, 1) := by decide +kernel
theorem dX12_sends_13 : decode cX12_sends 13 = .ok (.getfield 68, 3) := by decide +kernel
theorem dX12_sends_16 : decode cX12_sends 16 = .ok (.iload_n 3, 1) := by decide +kernel
theorem dX12_sends_17 : decode cX12_sends 17 = .ok (.iaload, 1) := by decide +kernel
theorem dX12_sends_18 : decode cX12_sends 18 = .ok (.istore 4, 2) := by decide +kernel
theorem dX12_sends_20 : decode cX12_sends 20 = .ok (.iload_n 3, 1) := by decide +kernel
theorem dX12_sends_21 : decode cX12_sends 21 = .ok (.iload 4, 2) := by decide +kernel
theorem dX12_sends_23 : decode cX12_sends 23 = .ok (.bipush 8, 2) := by decide +kernel
theorem dX12_sends_25 : decode cX12_sends 25 = .ok (.iadd, 1) := by decide +kernel
theorem dX12_sends_26 : decode cX12_sends 26 = .ok (.if_icmp .ne 17, 3) := by decide +kernel
theorem dX12_sends_29 : decode cX12_sends 29 = .ok (.aload_n 0, 1) := by decide +kernel
theorem dX12_sends_30 : decode cX12_sends 30 = .ok (.getfield 55, 3) := by decide +kernel
theorem dX12_sends_33 : decode cX12_sends 33 = .ok (.iload 4, 2) := by decide +kernel
theorem dX12_sends_35 : decode cX12_sends 35 = .ok (.dup2, 1) := by decide +kernel
theorem dX12_sends_36 : decode cX12_sends 36 = .ok (.iaload, 1) := by decide +kernel
theorem dX12_sends_37 : decode cX12_sends 37 = .ok (.iload_n 2, 1) := by decide +kernel
theorem dX12_sends_38 : decode cX12_sends 38 = .ok (.isub, 1) := by decide +kernel
theorem dX12_sends_39 : decode cX12_sends 39 = .ok (.iastore, 1) := by decide +kernel
theorem dX12_sends_40 : decode cX12_sends 40 = .ok (.goto 71, 3) := by decide +kernel
theorem dX12_sends_43 : decode cX12_sends 43 = .ok (.iload 4, 2) := by decide +kernel
theorem dX12_sends_45 : decode cX12_sends 45 = .ok (.iload_n 3, 1) := by decide +kernel
theorem dX12_sends_46 : decode cX12_sends 46 = .ok (.bipush 8, 2) := by decide +kernel
theorem dX12_sends_48 : decode cX12_sends 48 = .ok (.iadd, 1) := by decide +kernel
theorem dX12_sends_49 : decode cX12_sends 49 = .ok (.if_icmp .ne 16, 3) := by decide +kernel
theorem dX12_sends_52 : decode cX12_sends 52 = .ok (.aload_n 0, 1) := by decide +kernel
theorem dX12_sends_53 : decode cX12_sends 53 = .ok (.getfield 55, 3) := by decide +kernel
theorem dX12_sends_56 : decode cX12_sends 56 = .ok (.iload_n 3, 1) := by decide +kernel
theorem dX12_sends_57 : decode cX12_sends 57 = .ok (.dup2, 1) := by decide +kernel
theorem dX12_sends_58 : decode cX12_sends 58 = .ok (.iaload, 1) := by decide +kernel
theorem dX12_sends_59 : decode cX12_sends 59 = .ok (.iload_n 2, 1) := by decide +kernel
theorem dX12_sends_60 : decode cX12_sends 60 = .ok (.iadd, 1) := by decide +kernel
theorem dX12_sends_61 : decode cX12_sends 61 = .ok (.iastore, 1) := by decide +kernel
theorem dX12_sends_62 : decode cX12_sends 62 = .ok (.goto 49, 3) := by decide +kernel
theorem dX12_sends_65 : decode cX12_sends 65 = .ok (.iload 4, 2) := by decide +kernel
theorem dX12_sends_67 : decode cX12_sends 67 = .ok (.bipush 8, 2) := by decide +kernel
theorem dX12_sends_69 : decode cX12_sends 69 = .ok (.if_icmp .ge 24, 3) := by decide +kernel
theorem dX12_sends_72 : decode cX12_sends 72 = .ok (.aload_n 0, 1) := by decide +kernel
theorem dX12_sends_73 : decode cX12_sends 73 = .ok (.getfield 49, 3) := by decide +kernel
theorem dX12_sends_76 : decode cX12_sends 76 = .ok (.iload 4, 2) := by decide +kernel
theorem dX12_sends_78 : decode cX12_sends 78 = .ok (.iload_n 3, 1) := by decide +kernel
theorem dX12_sends_79 : decode cX12_sends 79 = .ok (.bipush 8, 2) := by decide +kernel
theorem dX12_sends_81 : decode cX12_sends 81 = .ok (.isub, 1) := by decide +kernel
theorem dX12_sends_82 : decode cX12_sends 82 = .ok (.invokestatic 229, 3) := by decide +kernel
theorem dX12_sends_85 : decode cX12_sends 85 = .ok (.dup2, 1) := by decide +kernel
theorem dX12_sends_86 : decode cX12_sends 86 = .ok (.iaload, 1) := by decide +kernel
theorem dX12_sends_87 : decode cX12_sends 87 = .ok (.iload_n 2, 1) := by decide +kernel
theorem dX12_sends_88 : decode cX12_sends 88 = .ok (.iadd, 1) := by decide +kernel
theorem dX12_sends_89 : decode cX12_sends 89 = .ok (.iastore, 1) := by decide +kernel
theorem dX12_sends_90 : decode cX12_sends 90 = .ok (.goto 21, 3) := by decide +kernel
theorem dX12_sends_93 : decode cX12_sends 93 = .ok (.aload_n 0, 1) := by decide +kernel
theorem dX12_sends_94 : decode cX12_sends 94 = .ok (.getfield 49, 3) := by decide +kernel
theorem dX12_sends_97 : decode cX12_sends 97 = .ok (.iload_n 3, 1) := by decide +kernel
theorem dX12_sends_98 : decode cX12_sends 98 = .ok (.iload 4, 2) := by decide +kernel
theorem dX12_sends_100 : decode cX12_sends 100 = .ok (.bipush 8, 2) := by decide +kernel
theorem dX12_sends_102 : decode cX12_sends 102 = .ok (.isub, 1) := by decide +kernel
theorem dX12_sends_103 : decode cX12_sends 103 = .ok (.invokestatic 229, 3) := by decide +kernel
theorem dX12_sends_106 : decode cX12_sends 106 = .ok (.dup2, 1) := by decide +kernel
theorem dX12_sends_107 : decode cX12_sends 107 = .ok (.iaload, 1) := by decide +kernel
theorem dX12_sends_108 : decode cX12_sends 108 = .ok (.iload_n 2, 1) := by decide +kernel
theorem dX12_sends_109 : decode cX12_sends 109 = .ok (.isub, 1) := by decide +kernel
theorem dX12_sends_110 : decode cX12_sends 110 = .ok (.iastore, 1) := by decide +kernel
theorem dX12_sends_111 : decode cX12_sends 111 = .ok (.aload_n 0, 1) := by decide +kernel
theorem dX12_sends_112 : decode cX12_sends 112 = .ok (.getfield 68, 3) := by decide +kernel
theorem dX12_sends_115 : decode cX12_sends 115 = .ok (.iload_n 3, 1) := by decide +kernel
theorem dX12_sends_116 : decode cX12_sends 116 = .ok (.iaload, 1) := by decide +kernel
theorem dX12_sends_117 : decode cX12_sends 117 = .ok (.istore_n 3, 1) := by decide +kernel
theorem dX12_sends_118 : decode cX12_sends 118 = .ok (.goto (-116), 3) := by decide +kernel
theorem dX12_sends_121 : decode cX12_sends 121 = .ok (.return_, 1) := by decide +kernel
theorem snd_thr {fx its bn my th th1 : Nat → Int32} {P B : Nat → Nat → Prop} {a : Nat} {v : Int32} (e : th1 = upd th (nI a).toNatClampNeg v) (ha : a < 8) (h : ∀ p q, p < 16 → q < 16 → 0 < stpF fx its bn my th p q → P p q ∨ B p q) (h1 : P a (a + 8) ∨ B a (a + 8)) (h2 : P (a + 8) a ∨ B (a + 8) a) : ∀ p q, p < 16 → q < 16 → 0 < stpF fx its bn my th1 p q → P p q ∨ B p q := by
  intro p q hp hq hh
  rw [nI_clamp (by omega)] at e
  subst e
  by_cases c1 : p = a ∧ q = a + 8
  · rw [c1.1, c1.2]; exact h1
  · by_cases c2 : p = a + 8 ∧ q = a
    · rw [c2.1, c2.2]; exact h2
    · rw [stp_thr hp hq c1 c2] at hh
      exact h p q hp hq hh
theorem snd_its {fx its its1 bn my th : Nat → Int32} {P B : Nat → Nat → Prop} {a b : Nat} {v : Int32} (e : its1 = upd its (nI (8 * a + b)).toNatClampNeg v) (ha : a < 8) (hb : b < 8) (h : ∀ p q, p < 16 → q < 16 → 0 < stpF fx its bn my th p q → P p q ∨ B p q) (h1 : P a (b + 8) ∨ B a (b + 8)) (h2 : P (b + 8) a ∨ B (b + 8) a) : ∀ p q, p < 16 → q < 16 → 0 < stpF fx its1 bn my th p q → P p q ∨ B p q := by
  intro p q hp hq hh
  rw [nI_clamp (by omega)] at e
  subst e
  by_cases c1 : p = a ∧ q = b + 8
  · rw [c1.1, c1.2]; exact h1
  · by_cases c2 : p = b + 8 ∧ q = a
    · rw [c2.1, c2.2]; exact h2
    · rw [stp_its ha hb hp hq c1 c2] at hh
      exact h p q hp hq hh
set_option maxHeartbeats 4000000 in
set_option maxRecDepth 100000 in
theorem m_sends (l : Launch) (dC : Nat → ClassId) (dI : Nat → Nat → Nat) (cy : Nat → ClassId) (L : List Nat) (kap : Nat → Nat) (pr : Pr) (S : Nat → va_E) (sz : Nat) (o : Nat) (et : Nat) (mu : Int32) (hTy : Ty cy L kap pr S) (hT_o : TK L kap o 12) (hb_et : et < 16) (rk : Nat → Nat) (hrk : ∀ v p, v < 16 → p < 16 → fld S o 28 v = nI p → rk p < rk v) (hop : ∀ v p, v < 16 → p < 16 → fld S o 28 v = nI p → 0 < STP S o p v) : Met l yX12_sends (wT yX12_sends cX12_sends 5 none) ({ frames := 1, cells := 0, slots := 0, locals := 21 }) (pcN dC dI [.ref o, .int (nI et), .int mu] sz (va_pl L S) (cyT cy) NLs []) (va_Qv (fun S' => Ty cy L kap pr S' ∧ Fr kap [60, 62] S S' ∧ ((∀ p q, p < 16 → q < 16 → 0 < STP S' o p q → 0 < STP S o p q ∨ fld S o 28 p = nI q) ∧ ∀ a, a < 8 → fld S' o 22 (8 * a + a) = fld S o 22 (8 * a + a))) (fun S' t => pB dC dI (AL L sz) (va_pl L S') (cyT cy) t) (AL L sz)) 0 0 (AL L sz) := by
  refine Met.ofW (cc := cX12_sends) (maxL := 5) (ret := none) (by decide) rfl ?_
  intro p e s m args below meth c s₁ B hml hv
  obtain ⟨rfl, hsz, hP, hK, hD0, hN, -⟩ := hv
  have hx := B.exec
  have hb := B.bytes
  have hr := B.returns
  have hT : ∀ wd ∈ TB, wd.before [.ref o, .int (nI et), .int mu].toArray s = true := fun wd h => atoms_spec (ws := wT yX12_sends cX12_sends 5 none) B.pre wd (List.mem_cons_of_mem _ h)
  have hown : s.vm.findClass RX12 = some m.cls := findClass_of_methodNamed B.named
  have hlocks := B.notSynchronized
  subst hsz
  have hW : PW dC dI L (AL L s.heap.size) s.heap S s.heap [] := ⟨hP, pl_self hD0, va_S.rf⟩
  have hA0 : ∀ q, q ∈ L → AL L s.heap.size q := fun _ h => Or.inl h
  have hA : ∀ q, s.heap.size ≤ q → AL L s.heap.size q := fun _ h => Or.inr h
  have hFr : Fr kap [60, 62] S S := Fr.rf
  have hl := lv_entry ([.ref o, .int (nI et), .int mu]) (n := 5) (Nat.le_of_ble_eq_true rfl)
  rw [lg_entry_eq]
  generalize (lg_sl ([.ref o, .int (nI et), .int mu]) ++ List.replicate (5 - (lg_sl ([.ref o, .int (nI et), .int mu])).length) Slot.unset).toArray = ls at hl ⊢
  have hl : lv_has ls 5 [(0, .ref o), (1, .int (nI et)), (2, .int mu)] := hl
  obtain ⟨x_1, x_2, x_3, x_4, x_5, x_6, x_7, x_8, x_9, x_10, x_11, x_12, x_13, x_14, x_15, x_16, x_17, x_18, x_19, x_20, x_21, x_22, x_23, x_24, x_25, x_26, x_27, x_28, x_29, x_30, x_31, hS_o, hT_x_1, hT_x_2, hT_x_3, hT_x_4, hT_x_5, hb_x_6, hb_x_7, hb_x_8, hT_x_10, hb_q2, hb_x_11, hb_x_12, hT_x_17, hT_x_18, hb_x_19, hT_x_20, hT_x_21, hT_x_22, hT_x_23, hT_x_24, hT_x_25, hT_x_26, hT_x_27, hT_x_28, hT_x_29, hT_x_30, hb_x_31⟩ := hTy.k12 hT_o
  have hb_q2 : pr.2 ≤ 900 := hb_q2
  have hS_o : S o = .inr (12, [.ref x_1, .ref x_2, .ref x_3, .ref x_4, .ref x_5, .int (nI x_6), .int (nI x_7), .int (nI x_8), .int x_9, .ref x_10, .int (nI (pr.2)), .int (nI x_11), .int (nI x_12), .int x_13, .int x_14, .int x_15, .int x_16, .ref x_17, .ref x_18, .int (nI x_19), .ref x_20, .ref x_21, .ref x_22, .ref x_23, .ref x_24, .ref x_25, .ref x_26, .ref x_27, .ref x_28, .ref x_29, .ref x_30, .int (nI x_31)]) := hS_o
  obtain ⟨f_32, hS_x_26⟩ := hTy.k64 hT_x_26
  obtain ⟨f_33, hS_x_22⟩ := hTy.k60 hT_x_22
  obtain ⟨f_34, hS_x_21⟩ := hTy.k59 hT_x_21
  obtain ⟨f_35, hS_x_23⟩ := hTy.k61 hT_x_23
  obtain ⟨f_36, hS_x_24⟩ := hTy.k62 hT_x_24
  obtain ⟨f_37, hS_x_28, hi_f_37⟩ := hTy.k66 hT_x_28
  have hb28 : fld S o 28 = f_37 := fld_i hS_o rfl hS_x_28
  refine lv_iload_n hx hb dX12_sends_0 rfl (lv_at hl 1 rfl) ?_
  refine lv_istore_n (lv' := [(3, .int (nI et)), (0, .ref o), (1, .int (nI et)), (2, .int mu)]) hx hb dX12_sends_1 rfl hl (by decide) rfl (fun ls hl => ?_)
  have loop : ∀ (fuel : Nat) (q9 : Nat) (gi : Nat → Int32) (gt : Nat → Int32) (SS : Nat → va_E) (H : Heap) (locs : List Loc) (ls : Array Slot), rk q9 < fuel → (q9 ≤ 15) → (SS x_22 = .inl (cy 0, 64, .inl gi)) → (SS x_24 = .inl (cy 0, 8, .inl gt)) → (∀ p q, p < 16 → q < 16 → 0 < stpF f_32 gi f_34 f_35 gt p q → 0 < STP S o p q ∨ fld S o 28 p = nI q) → (∀ a, a < 8 → gi (8 * a + a) = fld S o 22 (8 * a + a)) → Ty cy L kap pr SS → Fr kap [60, 62] S SS → Fr kap [60, 62] S SS → PW dC dI L (AL L s.heap.size) s.heap SS H locs → lv_has ls 5 [(3, .int (nI q9)), (0, .ref o), (1, .int (nI et)), (2, .int mu)] → W p l e (headSpec (wT yX12_sends cX12_sends 5 none) { frames := 1, cells := 0, slots := 0, locals := 21 }).room s m [.ref o, .int (nI et), .int mu].toArray below meth c H locs 0 0 (MQ below (va_Qv (fun S' => Ty cy L kap pr S' ∧ Fr kap [60, 62] S S' ∧ ((∀ p q, p < 16 → q < 16 → 0 < STP S' o p q → 0 < STP S o p q ∨ fld S o 28 p = nI q) ∧ ∀ a, a < 8 → fld S' o 22 (8 * a + a) = fld S o 22 (8 * a + a))) (fun S' t => pB dC dI (AL L s.heap.size) (va_pl L S') (cyT cy) t) (AL L s.heap.size)) [.ref o, .int (nI et), .int mu].toArray s 0 0 (AL L s.heap.size)) (F0 m 2 ls []) := by
    intro fuel
    induction fuel with
    | zero => intro q9 gi gt SS H locs ls h; exact absurd h (Nat.not_lt_zero _)
    | succ fu2 ih2 =>
      intro q9 gi gt S_38 H locs ls hm2 hb_q9 hIs hTs hin hdz hTy hFr hFl2 hW hl
      have hS_o := hFl2.at hT_o (by decide) hS_o
      have hS_x_26 := hFl2.at hT_x_26 (by decide) hS_x_26
      have hS_x_21 := hFl2.at hT_x_21 (by decide) hS_x_21
      have hS_x_23 := hFl2.at hT_x_23 (by decide) hS_x_23
      have hS_x_28 := hFl2.at hT_x_28 (by decide) hS_x_28
      refine lv_aload_n hx hb dX12_sends_2 rfl (lv_at hl 1 rfl) ?_
      refine pl_get (ci := 12) (v := .ref x_28) (C := RX12) (T := TX12) (N := 32) hx hb hT iX12 hown hK hW hT_o.1 hS_o rfl 28 (by decide) w1110 rfl dX12_sends_3 ?_
      refine lv_iload_n hx hb dX12_sends_6 rfl (lv_at hl 0 rfl) ?_
      refine pl_iald hx hb hK hW hT_x_28.1 hS_x_28 (vp_in_nI (n := q9) (N := 16) (by omega) (by omega)) dX12_sends_7 ?_
      refine lv_topi (fun y_39 ey_39 => ?_)
      have hv_y_39 := hi_f_37 (q9) (by omega)
      rw [show f_37 (q9) = y_39 from (ey_39.trans (by show f_37 (nI (q9)).toNatClampNeg = _; rw [nI_clamp (by omega)])).symm] at hv_y_39
      refine lv_iconst (v := (-1)) hx hb dX12_sends_8 (by decide) ?_
      refine lv_icmp_eq (tgt := 121) hx hb dX12_sends_9 (by decide) (fun c_9 => ?_) (fun c_9 => ?_)
      · exact W.vret hx hb hr (fun t ht h9 => ⟨⟨S_38, rfl, ⟨hTy, hFr, ⟨fun p q hp hq h => hin p q hp hq (by rw [(STPe hS_o rfl rfl rfl rfl rfl hS_x_26 hIs hS_x_21 hS_x_23 hTs)] at h; exact h), fun a ha => by rw [fld_i hS_o rfl hIs]; exact hdz a ha⟩⟩, by rw [ht]; exact hW.1, va_K.moved h9.alike hK, hW.2.1⟩, hW.2.2.F ht⟩) hW.2.2.2.2 dX12_sends_121
      · obtain ⟨k_40, hb_k_40, rfl⟩ := hv_y_39.resolve_left c_9
        have hbq : fld S o 28 q9 = nI k_40 := by rw [hb28]; have q := ey_39; rw [nI_clamp (by omega)] at q; exact q.symm
        have hrl := hrk q9 k_40 (by omega) (by omega) hbq
        have hopk := hop q9 k_40 (by omega) (by omega) hbq
        have hsd := stp_side (show 0 < stpF _ _ _ _ _ k_40 q9 from hopk)
        refine lv_aload_n hx hb dX12_sends_12 rfl (lv_at hl 1 rfl) ?_
        refine pl_get (ci := 12) (v := .ref x_28) (C := RX12) (T := TX12) (N := 32) hx hb hT iX12 hown hK hW hT_o.1 hS_o rfl 28 (by decide) w1110 rfl dX12_sends_13 ?_
        refine lv_iload_n hx hb dX12_sends_16 rfl (lv_at hl 0 rfl) ?_
        refine pl_iald hx hb hK hW hT_x_28.1 hS_x_28 (vp_in_nI (n := q9) (N := 16) (by omega) (by omega)) dX12_sends_17 ?_
        refine lv_topi (fun y_41 ey_41 => ?_)
        obtain rfl : y_41 = nI k_40 := ey_41.trans ey_39.symm
        refine lv_istore (lv' := [(4, .int (nI k_40)), (3, .int (nI q9)), (0, .ref o), (1, .int (nI et)), (2, .int mu)]) hx hb dX12_sends_18 hl (by decide) rfl (fun ls hl => ?_)
        refine lv_iload_n hx hb dX12_sends_20 rfl (lv_at hl 1 rfl) ?_
        refine lv_iload hx hb dX12_sends_21 (lv_at hl 0 rfl) ?_
        refine lv_bipush (v := 8) hx hb dX12_sends_23 (by decide) ?_
        refine lv_iadd hx hb dX12_sends_25 ?_
        refine lv_topi (fun z_42 ez_42 => ?_)
        obtain rfl : z_42 = nI (k_40 + 8) := ez_42.trans (nI_add (k_40) (8))
        refine lv_icmp_ne (tgt := 43) hx hb dX12_sends_26 (by decide) (fun c_26 => ?_) (fun c_26 => ?_)
        · have c_26 : ¬ (q9 = (k_40 + 8)) := fun hh9 => c_26 ((nI_eq (a := q9) (b := k_40 + 8) (by omega) (by omega)).mpr hh9)
          refine lv_iload hx hb dX12_sends_43 (lv_at hl 0 rfl) ?_
          refine lv_iload_n hx hb dX12_sends_45 rfl (lv_at hl 1 rfl) ?_
          refine lv_bipush (v := 8) hx hb dX12_sends_46 (by decide) ?_
          refine lv_iadd hx hb dX12_sends_48 ?_
          refine lv_topi (fun z_43 ez_43 => ?_)
          obtain rfl : z_43 = nI (q9 + 8) := ez_43.trans (nI_add (q9) (8))
          refine lv_icmp_ne (tgt := 65) hx hb dX12_sends_49 (by decide) (fun c_49 => ?_) (fun c_49 => ?_)
          · have c_49 : ¬ (k_40 = (q9 + 8)) := fun hh9 => c_49 ((nI_eq (a := k_40) (b := q9 + 8) (by omega) (by omega)).mpr hh9)
            refine lv_iload hx hb dX12_sends_65 (lv_at hl 0 rfl) ?_
            refine lv_bipush (v := 8) hx hb dX12_sends_67 (by decide) ?_
            refine lv_icmp_ge (tgt := 93) hx hb dX12_sends_69 (by decide) (fun c_69 => ?_) (fun c_69 => ?_)
            · have c_69 : 8 ≤ k_40 := (nI_leI (a := 8) (b := k_40) (by omega) (by omega)).mp c_69
              refine lv_aload_n hx hb dX12_sends_93 rfl (lv_at hl 2 rfl) ?_
              refine pl_get (ci := 12) (v := .ref x_22) (C := RX12) (T := TX12) (N := 32) hx hb hT iX12 hown hK hW hT_o.1 hS_o rfl 22 (by decide) w1104 rfl dX12_sends_94 ?_
              refine lv_iload_n hx hb dX12_sends_97 rfl (lv_at hl 1 rfl) ?_
              refine lv_iload hx hb dX12_sends_98 (lv_at hl 0 rfl) ?_
              refine lv_bipush (v := 8) hx hb dX12_sends_100 (by decide) ?_
              refine lv_isub hx hb dX12_sends_102 ?_
              refine lv_topi (fun z_44 ez_44 => ?_)
              obtain rfl : z_44 = nI (k_40 - 8) := ez_44.trans (pk_sub (a := k_40) (b := 8) (by omega))
              refine vp_callSi (va_Run.run (va_runS (As := [.int (nI q9), .int (nI (k_40 - 8))]) (rest := [.ref x_22]) ⟨hx, hb, hml, hown, hT⟩ (m_couple l dC dI H.size q9 (k_40 - 8) (by omega) (by omega)) (va_cwS 2 hT (gS w1348 w1349 w14 w1350) rfl rfl rfl (by decide +kernel) ⟨(Nat.le_of_ble_eq_true rfl), (Nat.le_of_ble_eq_true rfl)⟩) ⟨pcW.blind, pcW.pre (va_P0 _ _ _) (hK.sub (tys' := []) [] rfl) (va_D0 (fun _ => True))⟩ rfl rfl hl.1 rfl (lv_room (Nat.le_of_ble_eq_true rfl)) dX12_sends_103 ⟨(Nat.le_of_ble_eq_true rfl), (Nat.le_of_ble_eq_true rfl)⟩)) (fun r_45 hr_45 => ?_)
              obtain rfl : r_45 = nI (8 * q9 + (k_40 - 8)) := hr_45
              refine lv_dup2_11 hx hb dX12_sends_106 rfl rfl ?_
              refine pl_iald hx hb hK hW hT_x_22.1 hIs (vp_in_nI (n := 8 * q9 + (k_40 - 8)) (N := 64) (by omega) (by omega)) dX12_sends_107 ?_
              refine lv_topi (fun y_46 ey_46 => ?_)
              refine lv_iload_n hx hb dX12_sends_108 rfl (lv_at hl 4 rfl) ?_
              refine lv_isub hx hb dX12_sends_109 ?_
              refine lv_topi (fun z_47 ez_47 => ?_)
              refine pl_iast hx hb hK hW hT_x_22.1 hIs (vp_in_nI (n := 8 * q9 + (k_40 - 8)) (N := 64) (by omega) (by omega)) dX12_sends_110 (fun H locs f_49 S_48 ef_f_49 e1 hW => ?_)
              have hTy := hTy.u60 e1 hT_x_22 ⟨f_49, rfl⟩
              have hS_o := un e1 hT_o hT_x_22 (by decide) hS_o
              have hS_x_26 := un e1 hT_x_26 hT_x_22 (by decide) hS_x_26
              have hS_x_21 := un e1 hT_x_21 hT_x_22 (by decide) hS_x_21
              have hS_x_23 := un e1 hT_x_23 hT_x_22 (by decide) hS_x_23
              have hS_x_28 := un e1 hT_x_28 hT_x_22 (by decide) hS_x_28
              have hTs := un e1 hT_x_24 hT_x_22 (by decide) hTs
              have hFr := uf hFr e1 hT_x_22 (by decide) (by decide)
              have hFl2 := uf hFl2 e1 hT_x_22 (by decide) (by decide)
              have hIs := us e1
              have hin1 := snd_its (P := fun p q => 0 < STP S o p q) (B := fun p q => fld S o 28 p = nI q) ef_f_49 (by omega) (by omega) hin (Or.inr (by show fld S o 28 _ = nI _; rw [show k_40 - 8 + 8 = k_40 from by omega]; exact hbq)) (Or.inl (by show 0 < STP S o _ _; rw [show k_40 - 8 + 8 = k_40 from by omega]; exact hopk))
              have hdz1 : ∀ a, a < 8 → f_49 (8 * a + a) = fld S o 22 (8 * a + a) := fun a ha => by rw [ef_f_49, nI_clamp (by omega), pk_un (by omega)]; exact hdz a ha
              refine lv_aload_n hx hb dX12_sends_111 rfl (lv_at hl 2 rfl) ?_
              refine pl_get (ci := 12) (v := .ref x_28) (C := RX12) (T := TX12) (N := 32) hx hb hT iX12 hown hK hW hT_o.1 hS_o rfl 28 (by decide) w1110 rfl dX12_sends_112 ?_
              refine lv_iload_n hx hb dX12_sends_115 rfl (lv_at hl 1 rfl) ?_
              refine pl_iald hx hb hK hW hT_x_28.1 hS_x_28 (vp_in_nI (n := q9) (N := 16) (by omega) (by omega)) dX12_sends_116 ?_
              refine lv_topi (fun y_50 ey_50 => ?_)
              obtain rfl : y_50 = nI k_40 := ey_50.trans ey_39.symm
              refine lv_istore_n (lv' := [(3, .int (nI k_40)), (4, .int (nI k_40)), (0, .ref o), (1, .int (nI et)), (2, .int mu)]) hx hb dX12_sends_117 rfl hl (by decide) rfl (fun ls hl => ?_)
              refine lv_goto (tgt := 2) hx hb dX12_sends_118 (by decide) ?_
              exact ih2 k_40 f_49 gt _ _ _ ls (by omega) (by omega) hIs hTs hin1 hdz1 hTy hFr hFl2 hW (lv_sub hl [0, 2, 3, 4] rfl)
            · have c_69 : ¬ (8 ≤ k_40) := fun hh9 => c_69 ((nI_leI (a := 8) (b := k_40) (by omega) (by omega)).mpr hh9)
              refine lv_aload_n hx hb dX12_sends_72 rfl (lv_at hl 2 rfl) ?_
              refine pl_get (ci := 12) (v := .ref x_22) (C := RX12) (T := TX12) (N := 32) hx hb hT iX12 hown hK hW hT_o.1 hS_o rfl 22 (by decide) w1104 rfl dX12_sends_73 ?_
              refine lv_iload hx hb dX12_sends_76 (lv_at hl 0 rfl) ?_
              refine lv_iload_n hx hb dX12_sends_78 rfl (lv_at hl 1 rfl) ?_
              refine lv_bipush (v := 8) hx hb dX12_sends_79 (by decide) ?_
              refine lv_isub hx hb dX12_sends_81 ?_
              refine lv_topi (fun z_51 ez_51 => ?_)
              obtain rfl : z_51 = nI (q9 - 8) := ez_51.trans (pk_sub (a := q9) (b := 8) (by omega))
              refine vp_callSi (va_Run.run (va_runS (As := [.int (nI k_40), .int (nI (q9 - 8))]) (rest := [.ref x_22]) ⟨hx, hb, hml, hown, hT⟩ (m_couple l dC dI H.size k_40 (q9 - 8) (by omega) (by omega)) (va_cwS 2 hT (gS w1348 w1349 w14 w1350) rfl rfl rfl (by decide +kernel) ⟨(Nat.le_of_ble_eq_true rfl), (Nat.le_of_ble_eq_true rfl)⟩) ⟨pcW.blind, pcW.pre (va_P0 _ _ _) (hK.sub (tys' := []) [] rfl) (va_D0 (fun _ => True))⟩ rfl rfl hl.1 rfl (lv_room (Nat.le_of_ble_eq_true rfl)) dX12_sends_82 ⟨(Nat.le_of_ble_eq_true rfl), (Nat.le_of_ble_eq_true rfl)⟩)) (fun r_52 hr_52 => ?_)
              obtain rfl : r_52 = nI (8 * k_40 + (q9 - 8)) := hr_52
              refine lv_dup2_11 hx hb dX12_sends_85 rfl rfl ?_
              refine pl_iald hx hb hK hW hT_x_22.1 hIs (vp_in_nI (n := 8 * k_40 + (q9 - 8)) (N := 64) (by omega) (by omega)) dX12_sends_86 ?_
              refine lv_topi (fun y_53 ey_53 => ?_)
              refine lv_iload_n hx hb dX12_sends_87 rfl (lv_at hl 4 rfl) ?_
              refine lv_iadd hx hb dX12_sends_88 ?_
              refine lv_topi (fun z_54 ez_54 => ?_)
              refine pl_iast hx hb hK hW hT_x_22.1 hIs (vp_in_nI (n := 8 * k_40 + (q9 - 8)) (N := 64) (by omega) (by omega)) dX12_sends_89 (fun H locs f_56 S_55 ef_f_56 e1 hW => ?_)
              have hTy := hTy.u60 e1 hT_x_22 ⟨f_56, rfl⟩
              have hS_o := un e1 hT_o hT_x_22 (by decide) hS_o
              have hS_x_26 := un e1 hT_x_26 hT_x_22 (by decide) hS_x_26
              have hS_x_21 := un e1 hT_x_21 hT_x_22 (by decide) hS_x_21
              have hS_x_23 := un e1 hT_x_23 hT_x_22 (by decide) hS_x_23
              have hS_x_28 := un e1 hT_x_28 hT_x_22 (by decide) hS_x_28
              have hTs := un e1 hT_x_24 hT_x_22 (by decide) hTs
              have hFr := uf hFr e1 hT_x_22 (by decide) (by decide)
              have hFl2 := uf hFl2 e1 hT_x_22 (by decide) (by decide)
              have hIs := us e1
              have hin1 := snd_its (P := fun p q => 0 < STP S o p q) (B := fun p q => fld S o 28 p = nI q) ef_f_56 (by omega) (by omega) hin (Or.inl (by show 0 < STP S o _ _; rw [show q9 - 8 + 8 = q9 from by omega]; exact hopk)) (Or.inr (by show fld S o 28 _ = nI _; rw [show q9 - 8 + 8 = q9 from by omega]; exact hbq))
              have hdz1 : ∀ a, a < 8 → f_56 (8 * a + a) = fld S o 22 (8 * a + a) := fun a ha => by rw [ef_f_56, nI_clamp (by omega), pk_un (by omega)]; exact hdz a ha
              refine lv_goto (tgt := 111) hx hb dX12_sends_90 (by decide) ?_
              refine lv_aload_n hx hb dX12_sends_111 rfl (lv_at hl 2 rfl) ?_
              refine pl_get (ci := 12) (v := .ref x_28) (C := RX12) (T := TX12) (N := 32) hx hb hT iX12 hown hK hW hT_o.1 hS_o rfl 28 (by decide) w1110 rfl dX12_sends_112 ?_
              refine lv_iload_n hx hb dX12_sends_115 rfl (lv_at hl 1 rfl) ?_
              refine pl_iald hx hb hK hW hT_x_28.1 hS_x_28 (vp_in_nI (n := q9) (N := 16) (by omega) (by omega)) dX12_sends_116 ?_
              refine lv_topi (fun y_57 ey_57 => ?_)
              obtain rfl : y_57 = nI k_40 := ey_57.trans ey_39.symm
              refine lv_istore_n (lv' := [(3, .int (nI k_40)), (4, .int (nI k_40)), (0, .ref o), (1, .int (nI et)), (2, .int mu)]) hx hb dX12_sends_117 rfl hl (by decide) rfl (fun ls hl => ?_)
              refine lv_goto (tgt := 2) hx hb dX12_sends_118 (by decide) ?_
              exact ih2 k_40 f_56 gt _ _ _ ls (by omega) (by omega) hIs hTs hin1 hdz1 hTy hFr hFl2 hW (lv_sub hl [0, 2, 3, 4] rfl)
          · have c_49 : k_40 = (q9 + 8) := (nI_eq (a := k_40) (b := q9 + 8) (by omega) (by omega)).mp c_49
            refine lv_aload_n hx hb dX12_sends_52 rfl (lv_at hl 2 rfl) ?_
            refine pl_get (ci := 12) (v := .ref x_24) (C := RX12) (T := TX12) (N := 32) hx hb hT iX12 hown hK hW hT_o.1 hS_o rfl 24 (by decide) w1106 rfl dX12_sends_53 ?_
            refine lv_iload_n hx hb dX12_sends_56 rfl (lv_at hl 1 rfl) ?_
            refine lv_dup2_11 hx hb dX12_sends_57 rfl rfl ?_
            refine pl_iald hx hb hK hW hT_x_24.1 hTs (vp_in_nI (n := q9) (N := 8) (by omega) (by omega)) dX12_sends_58 ?_
            refine lv_topi (fun y_58 ey_58 => ?_)
            refine lv_iload_n hx hb dX12_sends_59 rfl (lv_at hl 4 rfl) ?_
            refine lv_iadd hx hb dX12_sends_60 ?_
            refine lv_topi (fun z_59 ez_59 => ?_)
            refine pl_iast hx hb hK hW hT_x_24.1 hTs (vp_in_nI (n := q9) (N := 8) (by omega) (by omega)) dX12_sends_61 (fun H locs f_61 S_60 ef_f_61 e1 hW => ?_)
            have hTy := hTy.u62 e1 hT_x_24 ⟨f_61, rfl⟩
            have hS_o := un e1 hT_o hT_x_24 (by decide) hS_o
            have hS_x_26 := un e1 hT_x_26 hT_x_24 (by decide) hS_x_26
            have hS_x_21 := un e1 hT_x_21 hT_x_24 (by decide) hS_x_21
            have hS_x_23 := un e1 hT_x_23 hT_x_24 (by decide) hS_x_23
            have hS_x_28 := un e1 hT_x_28 hT_x_24 (by decide) hS_x_28
            have hIs := un e1 hT_x_22 hT_x_24 (by decide) hIs
            have hFr := uf hFr e1 hT_x_24 (by decide) (by decide)
            have hFl2 := uf hFl2 e1 hT_x_24 (by decide) (by decide)
            have hTs := us e1
            have hin1 := snd_thr (P := fun p q => 0 < STP S o p q) (B := fun p q => fld S o 28 p = nI q) ef_f_61 (by omega) hin (Or.inr (by show fld S o 28 _ = _; rw [← c_49]; exact hbq)) (Or.inl (by show 0 < STP S o _ _; rw [← c_49]; exact hopk))
            refine lv_goto (tgt := 111) hx hb dX12_sends_62 (by decide) ?_
            refine lv_aload_n hx hb dX12_sends_111 rfl (lv_at hl 2 rfl) ?_
            refine pl_get (ci := 12) (v := .ref x_28) (C := RX12) (T := TX12) (N := 32) hx hb hT iX12 hown hK hW hT_o.1 hS_o rfl 28 (by decide) w1110 rfl dX12_sends_112 ?_
            refine lv_iload_n hx hb dX12_sends_115 rfl (lv_at hl 1 rfl) ?_
            refine pl_iald hx hb hK hW hT_x_28.1 hS_x_28 (vp_in_nI (n := q9) (N := 16) (by omega) (by omega)) dX12_sends_116 ?_
            refine lv_topi (fun y_62 ey_62 => ?_)
            obtain rfl : y_62 = nI k_40 := ey_62.trans ey_39.symm
            refine lv_istore_n (lv' := [(3, .int (nI k_40)), (4, .int (nI k_40)), (0, .ref o), (1, .int (nI et)), (2, .int mu)]) hx hb dX12_sends_117 rfl hl (by decide) rfl (fun ls hl => ?_)
            refine lv_goto (tgt := 2) hx hb dX12_sends_118 (by decide) ?_
            exact ih2 k_40 gi f_61 _ _ _ ls (by omega) (by omega) hIs hTs hin1 hdz hTy hFr hFl2 hW (lv_sub hl [0, 2, 3, 4] rfl)
        · have c_26 : q9 = (k_40 + 8) := (nI_eq (a := q9) (b := k_40 + 8) (by omega) (by omega)).mp c_26
          refine lv_aload_n hx hb dX12_sends_29 rfl (lv_at hl 2 rfl) ?_
          refine pl_get (ci := 12) (v := .ref x_24) (C := RX12) (T := TX12) (N := 32) hx hb hT iX12 hown hK hW hT_o.1 hS_o rfl 24 (by decide) w1106 rfl dX12_sends_30 ?_
          refine lv_iload hx hb dX12_sends_33 (lv_at hl 0 rfl) ?_
          refine lv_dup2_11 hx hb dX12_sends_35 rfl rfl ?_
          refine pl_iald hx hb hK hW hT_x_24.1 hTs (vp_in_nI (n := k_40) (N := 8) (by omega) (by omega)) dX12_sends_36 ?_
          refine lv_topi (fun y_63 ey_63 => ?_)
          refine lv_iload_n hx hb dX12_sends_37 rfl (lv_at hl 4 rfl) ?_
          refine lv_isub hx hb dX12_sends_38 ?_
          refine lv_topi (fun z_64 ez_64 => ?_)
          refine pl_iast hx hb hK hW hT_x_24.1 hTs (vp_in_nI (n := k_40) (N := 8) (by omega) (by omega)) dX12_sends_39 (fun H locs f_66 S_65 ef_f_66 e1 hW => ?_)
          have hTy := hTy.u62 e1 hT_x_24 ⟨f_66, rfl⟩
          have hS_o := un e1 hT_o hT_x_24 (by decide) hS_o
          have hS_x_26 := un e1 hT_x_26 hT_x_24 (by decide) hS_x_26
          have hS_x_21 := un e1 hT_x_21 hT_x_24 (by decide) hS_x_21
          have hS_x_23 := un e1 hT_x_23 hT_x_24 (by decide) hS_x_23
          have hS_x_28 := un e1 hT_x_28 hT_x_24 (by decide) hS_x_28
          have hIs := un e1 hT_x_22 hT_x_24 (by decide) hIs
          have hFr := uf hFr e1 hT_x_24 (by decide) (by decide)
          have hFl2 := uf hFl2 e1 hT_x_24 (by decide) (by decide)
          have hTs := us e1
          have hin1 := snd_thr (P := fun p q => 0 < STP S o p q) (B := fun p q => fld S o 28 p = nI q) ef_f_66 (by omega) hin (Or.inl (by show 0 < STP S o _ _; rw [← c_26]; exact hopk)) (Or.inr (by show fld S o 28 _ = _; rw [← c_26]; exact hbq))
          refine lv_goto (tgt := 111) hx hb dX12_sends_40 (by decide) ?_
          refine lv_aload_n hx hb dX12_sends_111 rfl (lv_at hl 2 rfl) ?_
          refine pl_get (ci := 12) (v := .ref x_28) (C := RX12) (T := TX12) (N := 32) hx hb hT iX12 hown hK hW hT_o.1 hS_o rfl 28 (by decide) w1110 rfl dX12_sends_112 ?_
          refine lv_iload_n hx hb dX12_sends_115 rfl (lv_at hl 1 rfl) ?_
          refine pl_iald hx hb hK hW hT_x_28.1 hS_x_28 (vp_in_nI (n := q9) (N := 16) (by omega) (by omega)) dX12_sends_116 ?_
          refine lv_topi (fun y_67 ey_67 => ?_)
          obtain rfl : y_67 = nI k_40 := ey_67.trans ey_39.symm
          refine lv_istore_n (lv' := [(3, .int (nI k_40)), (4, .int (nI k_40)), (0, .ref o), (1, .int (nI et)), (2, .int mu)]) hx hb dX12_sends_117 rfl hl (by decide) rfl (fun ls hl => ?_)
          refine lv_goto (tgt := 2) hx hb dX12_sends_118 (by decide) ?_
          exact ih2 k_40 gi f_66 _ _ _ ls (by omega) (by omega) hIs hTs hin1 hdz hTy hFr hFl2 hW (lv_sub hl [0, 2, 3, 4] rfl)
  exact loop ((rk et) + 1) et f_33 f_36 _ _ _ ls (Nat.lt_succ_self _) (by omega) hS_x_22 hS_x_24 (fun p q _ _ h => Or.inl (by rw [(STPe hS_o rfl rfl rfl rfl rfl hS_x_26 hS_x_22 hS_x_21 hS_x_23 hS_x_24)]; exact h)) (fun a _ => by rw [fld_i hS_o rfl hS_x_22]) hTy hFr Fr.rf hW (lv_sub hl [0, 1, 2, 3] rfl)

