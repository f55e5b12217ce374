/-! what the class's tape takes -/
section TAPE
theorem bvs (x : BitVec 32) (s : Nat) (hs : s + 8 ≤ 32) : (x >>> s).signExtend 8 = (x.sshiftRight s).signExtend 8 := by
  apply BitVec.eq_of_getLsbD_eq
  intro i hi
  rw [BitVec.getLsbD_signExtend, BitVec.getLsbD_signExtend, BitVec.getLsbD_ushiftRight, BitVec.getLsbD_sshiftRight]
  have h1 : decide (32 ≤ i) = false := decide_eq_false (by omega)
  have h2 : s + i < 32 := by omega
  have h3 : i < 32 := by omega
  simp [h1, h2, h3]
theorem ush (v a : Int32) (s : Nat) (hs : s + 8 ≤ 32) (ha : ((a.toUInt32 &&& Int32.toUInt32 31).toBitVec % 32#32).toNat = s) (hb : ((a &&& 31).toBitVec.smod 32#32).toNat = s) : Int32.toInt8 ((v.toUInt32 >>> (a.toUInt32 &&& Int32.toUInt32 31)).toInt32) = Int32.toInt8 (v >>> (a &&& 31)) := by
  apply Int8.toBitVec_inj.mp
  rw [Int32.toBitVec_toInt8, Int32.toBitVec_toInt8, Int32.toBitVec_shiftRight]
  show ((v.toUInt32 >>> (a.toUInt32 &&& Int32.toUInt32 31)).toBitVec).signExtend 8 = _
  rw [UInt32.toBitVec_shiftRight]
  show (v.toBitVec >>> ((a.toUInt32 &&& Int32.toUInt32 31).toBitVec % 32#32).toNat).signExtend 8 = (v.toBitVec.sshiftRight ((a &&& 31).toBitVec.smod 32#32).toNat).signExtend 8
  rw [ha, hb]
  exact bvs _ _ hs
theorem ush_4 (v : Int32) {i : Nat} (hi : i < 4) : Int32.toInt8 ((v.toUInt32 >>> ((nI (24 - 8 * i)).toUInt32 &&& Int32.toUInt32 31)).toInt32) = Int32.toInt8 (v >>> (nI (24 - 8 * i) &&& 31)) := by
  rcases (show i = 0 ∨ i = 1 ∨ i = 2 ∨ i = 3 by omega) with rfl | rfl | rfl | rfl
  · exact ush v _ 24 (by decide) (by decide) (by decide)
  · exact ush v _ 16 (by decide) (by decide) (by decide)
  · exact ush v _ 8 (by decide) (by decide) (by decide)
  · exact ush v _ 0 (by decide) (by decide) (by decide)
variable {g f f1 : Nat → Int32} {t i m j : Nat} {v y z va vb vc vd ve : Int32}
def APC (g : Nat → Int32) (t : Nat) (v : Int32) (i : Nat) : Nat → Int32 := fun j => if t ≤ j ∧ j < t + i then BYT v (j - t) else g j
theorem APC_in (h : t ≤ j ∧ j < t + i) : APC g t v i j = BYT v (j - t) := if_pos h
theorem APC_out (h : ¬ (t ≤ j ∧ j < t + i)) : APC g t v i j = g j := if_neg h
theorem APC_0 : APC g t v 0 = g := funext (fun j => if_neg (by omega))
theorem APC_s (h : f = APC g t v i) (e : f1 = upd f (nI m).toNatClampNeg (vp_nar .byte y)) (hm : m = t + i) (ey : y = Int8.toInt32 (Int32.toInt8 z)) (ez : z = (v.toUInt32 >>> ((nI (24 - 8 * i)).toUInt32 &&& Int32.toUInt32 31)).toInt32) (hi : i < 4) (hb : t + i < 900) : f1 = APC g t v (i + 1) := by
  rw [nI_clamp (by omega), FDB_n ey, hm] at e
  subst e
  funext j
  by_cases q : j = t + i
  · rw [q, pk_us, APC_in (by omega), Nat.add_sub_cancel_left, ey, ez, ush_4 v hi]
    rfl
  · rw [pk_un q, h]
    by_cases q2 : t ≤ j ∧ j < t + i
    · rw [APC_in q2, APC_in (by omega)]
    · rw [APC_out q2, APC_out (by omega)]
theorem FD5 : FDC g t va vb vc vd ve 20 = APC (APC (APC (APC (APC g t va 4) (t + 4) vb 4) (t + 4 + 4) vc 4) (t + 4 + 4 + 4) vd 4) (t + 4 + 4 + 4 + 4) ve 4 := by
  funext j
  rcases (show j < t ∨ t + 20 ≤ j ∨ (t ≤ j ∧ j < t + 4) ∨ (t + 4 ≤ j ∧ j < t + 8) ∨ (t + 8 ≤ j ∧ j < t + 12) ∨ (t + 12 ≤ j ∧ j < t + 16) ∨ (t + 16 ≤ j ∧ j < t + 20) by omega) with h | h | h | h | h | h | h
  · rw [APC_out (by omega), APC_out (by omega), APC_out (by omega), APC_out (by omega), APC_out (by omega)]
    exact if_neg (by omega)
  · rw [APC_out (by omega), APC_out (by omega), APC_out (by omega), APC_out (by omega), APC_out (by omega)]
    exact if_neg (by omega)
  · rw [APC_out (by omega), APC_out (by omega), APC_out (by omega), APC_out (by omega), APC_in (by omega)]
    unfold FDC
    rw [if_pos (by omega)]
    unfold FDB
    rw [if_pos (by omega), show (j - t) % 4 = j - (t) from by omega]
  · rw [APC_out (by omega), APC_out (by omega), APC_out (by omega), APC_in (by omega)]
    unfold FDC
    rw [if_pos (by omega)]
    unfold FDB
    rw [if_neg (by omega), if_pos (by omega), show (j - t) % 4 = j - (t + 4) from by omega]
  · rw [APC_out (by omega), APC_out (by omega), APC_in (by omega)]
    unfold FDC
    rw [if_pos (by omega)]
    unfold FDB
    rw [if_neg (by omega), if_neg (by omega), if_pos (by omega), show (j - t) % 4 = j - (t + 4 + 4) from by omega]
  · rw [APC_out (by omega), APC_in (by omega)]
    unfold FDC
    rw [if_pos (by omega)]
    unfold FDB
    rw [if_neg (by omega), if_neg (by omega), if_neg (by omega), if_pos (by omega), show (j - t) % 4 = j - (t + 4 + 4 + 4) from by omega]
  · rw [APC_in (by omega)]
    unfold FDC
    rw [if_pos (by omega)]
    unfold FDB
    rw [if_neg (by omega), if_neg (by omega), if_neg (by omega), if_neg (by omega), show (j - t) % 4 = j - (t + 4 + 4 + 4 + 4) from by omega]
end TAPE
/-- every cell of that kind holds g -/
def KG (L : List Nat) (kap : Nat → Nat) (S : Nat → va_E) (k : Nat) (g : Nat → Int32) : Prop := ∀ b, TK L kap b k → af (S b) = g
/-- what every reader says went wrong, and where -/
def KW6 (L : List Nat) (kap : Nat → Nat) (S : Nat → va_E) (fw fp : Int32) : Prop := ∀ b, TK L kap b 6 → inf (S b) 0 = fw ∧ inf (S b) 1 = fp
theorem TLX_u {g : Nat → Int32} {t : Nat} {tn w0 a0 w1 a1 w2 a2 r s : Int32} (ht : t ≤ 900) (h : TLX g t tn w0 a0 w1 a1 r) (h' : TLX g t tn w0 a0 w2 a2 s) : w1 = w2 ∧ a1 = a2 ∧ r = s := by
  have no : ∀ k, k ≤ t → tn = nI k → (tn < 0 ∨ nI t < tn) → False := fun k hk e z => by
    rw [e] at z
    rcases z with z | z
    · rw [Int32.lt_iff_toInt_lt, nI_toInt (by omega)] at z
      have f0 : (0 : Int32).toInt = 0 := by decide
      omega
    · rw [Int32.lt_iff_toInt_lt, nI_toInt (by omega), nI_toInt (by omega)] at z
      omega
  rcases h with ⟨h1, h2, h3, h4⟩ | ⟨k, h1, h2, h3, h4⟩
  · rcases h' with ⟨-, g2, g3, g4⟩ | ⟨k', g1, g2, -, -⟩
    · exact ⟨h3.trans g3.symm, h4.trans g4.symm, h2.trans g2.symm⟩
    · exact (no k' g2 g1 h1).elim
  · rcases h' with ⟨g1, -, -, -⟩ | ⟨k', g1, g2, g3, g4⟩
    · exact (no k h2 h1 g1).elim
    · obtain rfl : k = k' := (nI_eq (by omega) (by omega)).mp (h1.symm.trans g1)
      rcases h4 with ⟨a, b, c⟩ | ⟨a, b, c⟩
      · rcases g4 with ⟨-, b', c'⟩ | ⟨a', -, -⟩
        · exact ⟨h3.trans g3.symm, b.trans b'.symm, c.trans c'.symm⟩
        · exact absurd a a'
      · rcases g4 with ⟨a', -, -⟩ | ⟨-, b', c'⟩
        · exact absurd a' a
        · exact ⟨h3.trans g3.symm, b.trans b'.symm, c.trans c'.symm⟩

set_option maxHeartbeats 4000000 in
set_option maxRecDepth 100000 in
theorem q_append (l : Launch) (dC : Nat → ClassId) (dI : Nat → Nat → Nat) (cy : Nat → ClassId) (L : List Nat) (kap : Nat → Nat) (pr : Pr) (S : Nat → va_E) (sz : Nat) (tp : Nat) (v : Int32) (hTy : Ty cy L kap pr S) (hT_tp : TK L kap tp 10) (hu10 : ∀ b9 c9, TK L kap b9 10 → TK L kap c9 10 → b9 = c9) (hu27 : ∀ b9 c9, TK L kap b9 27 → TK L kap c9 27 → b9 = c9) (hq : pr.1 + 4 ≤ 900) (g : Nat → Int32) (hgE : KG L kap S 27 g) : Met l yX10_append (wT yX10_append cX10_append 3 none) ({ frames := 0, cells := 0, slots := 0, locals := 0 }) (pcN dC dI [.ref tp, .int v] sz (va_pl L S) (cyT cy) NLs []) (va_Qv (fun S' => Ty cy L kap (pr.1 + 4, pr.2) S' ∧ Fr kap [10, 27] S S' ∧ (KG L kap S' 27 (APC g pr.1 v 4))) (fun S' t => pB dC dI (AL L sz) (va_pl L S') (cyT cy) t) (AL L sz)) 0 0 (AL L sz) := by
  refine Met.ofW (cc := cX10_append) (maxL := 3) (ret := none) (by decide) rfl ?_
  intro p e s m args below meth c s₁ B hml hv
  obtain ⟨rfl, hsz, hP, hK, hD0, hN, -⟩ := hv
  have hx := B.exec
  have hb := B.bytes
  have hr := B.returns
  have hT : ∀ wd ∈ TB, wd.before [.ref tp, .int v].toArray s = true := fun wd h => atoms_spec (ws := wT yX10_append cX10_append 3 none) B.pre wd (List.mem_cons_of_mem _ h)
  have hown : s.vm.findClass RX10 = some m.cls := findClass_of_methodNamed B.named
  have hlocks := B.notSynchronized
  subst hsz
  have hW : PW dC dI L (AL L s.heap.size) s.heap S s.heap [] := ⟨hP, pl_self hD0, va_S.rf⟩
  have hA0 : ∀ q, q ∈ L → AL L s.heap.size q := fun _ h => Or.inl h
  have hA : ∀ q, s.heap.size ≤ q → AL L s.heap.size q := fun _ h => Or.inr h
  have hFr : Fr kap [10, 27] S S := Fr.rf
  have hl := lv_entry ([.ref tp, .int v]) (n := 3) (Nat.le_of_ble_eq_true rfl)
  rw [lg_entry_eq]
  generalize (lg_sl ([.ref tp, .int v]) ++ List.replicate (3 - (lg_sl ([.ref tp, .int v])).length) Slot.unset).toArray = ls at hl ⊢
  have hl : lv_has ls 3 [(0, .ref tp), (1, .int v)] := hl
  obtain ⟨x_1, hS_tp, hT_x_1, hb_q1⟩ := hTy.k10 hT_tp
  have hb_q1 : pr.1 ≤ 900 := hb_q1
  have hS_tp : S tp = .inr (10, [.ref x_1, .int (nI (pr.1))]) := hS_tp
  obtain ⟨f_2, hS_x_1⟩ := hTy.k27 hT_x_1
  have eg_ := (hgE x_1 hT_x_1).symm.trans (af_i hS_x_1)
  subst eg_
  refine lv_bipush (v := 24) hx hb dX10_append_0 (by decide) ?_
  refine lv_istore_n (lv' := [(2, .int 24), (0, .ref tp), (1, .int v)]) hx hb dX10_append_2 rfl hl (by decide) rfl (fun ls hl => ?_)
  refine lv_iload_n hx hb dX10_append_3 rfl (lv_at hl 0 rfl) ?_
  refine lv_if_lt (tgt := 46) hx hb dX10_append_4 (by decide) (fun h => absurd h (by decide)) (fun _ => ?_)
  refine lv_aload_n hx hb dX10_append_7 rfl (lv_at hl 1 rfl) ?_
  refine pl_get (ci := 10) (v := .int (nI (pr.1))) (C := RX10) (T := TX10) (N := 2) hx hb hT iX10 hown hK hW hT_tp.1 hS_tp rfl 1 (by decide) w39 rfl dX10_append_8 ?_
  refine lv_sipush (v := 900) hx hb dX10_append_11 (by decide) ?_
  refine lv_icmp_ge (tgt := 40) hx hb dX10_append_14 (by decide) (fun c_14 => ?_) (fun c_14 => ?_)
  · have c_14 : 900 ≤ pr.1 := (nI_leI (a := 900) (b := pr.1) (by omega) (by omega)).mp c_14
    exfalso; omega
  · have c_14 : ¬ (900 ≤ pr.1) := fun hh9 => c_14 ((nI_leI (a := 900) (b := pr.1) (by omega) (by omega)).mpr hh9)
    refine lv_aload_n hx hb dX10_append_17 rfl (lv_at hl 1 rfl) ?_
    refine pl_get (ci := 10) (v := .ref x_1) (C := RX10) (T := TX10) (N := 2) hx hb hT iX10 hown hK hW hT_tp.1 hS_tp rfl 0 (by decide) w36 rfl dX10_append_18 ?_
    refine lv_aload_n hx hb dX10_append_21 rfl (lv_at hl 1 rfl) ?_
    refine pl_get (ci := 10) (v := .int (nI (pr.1))) (C := RX10) (T := TX10) (N := 2) hx hb hT iX10 hown hK hW hT_tp.1 hS_tp rfl 1 (by decide) w39 rfl dX10_append_22 ?_
    refine lv_iload_n hx hb dX10_append_25 rfl (lv_at hl 2 rfl) ?_
    refine lv_iload_n hx hb dX10_append_26 rfl (lv_at hl 0 rfl) ?_
    refine lv_iushr hx hb dX10_append_27 rfl ?_
    refine lv_topi (fun z_3 ez_3 => ?_)
    refine lv_i2b hx hb dX10_append_28 rfl ?_
    refine lv_topi (fun z_4 ez_4 => ?_)
    refine pl_bast hx hb hK hW hT_x_1.1 hS_x_1 (vp_in_nI (n := pr.1) (N := 900) (by omega) (by omega)) dX10_append_29 (fun H locs f_6 S_5 ef_f_6 e1 hW => ?_)
    have hTy := hTy.u27 e1 hT_x_1 ⟨f_6, rfl⟩
    have hS_tp := un e1 hT_tp hT_x_1 (by decide) hS_tp
    have hFr := uf hFr e1 hT_x_1 (by decide) (by decide)
    have hS_x_1 := us e1
    have hap1 := APC_s (g := g) (t := pr.1) (v := v) (i := 0) APC_0.symm ef_f_6 (by omega) ez_4 ez_3 (by decide) (by omega)
    refine lv_aload_n hx hb dX10_append_30 rfl (lv_at hl 1 rfl) ?_
    refine lv_dup hx hb dX10_append_31 rfl ?_
    refine pl_get (ci := 10) (v := .int (nI (pr.1))) (C := RX10) (T := TX10) (N := 2) hx hb hT iX10 hown hK hW hT_tp.1 hS_tp rfl 1 (by decide) w39 rfl dX10_append_32 ?_
    refine lv_iconst (v := 1) hx hb dX10_append_35 (by decide) ?_
    refine lv_iadd hx hb dX10_append_36 ?_
    refine lv_topi (fun z_7 ez_7 => ?_)
    obtain rfl : z_7 = nI (pr.1 + 1) := ez_7.trans (nI_add (pr.1) (1))
    refine pl_put (ci := 10) (v := .int (nI (pr.1 + 1))) (ty := .int) (C := RX10) (T := TX10) (N := 2) (fs' := [.ref x_1, .int (nI (pr.1 + 1))]) hx hb hT iX10 tyX10 tyX10_ok nmX10 hown hK hW hT_tp.1 hS_tp rfl 1 (by decide) w39 rfl (by decide +kernel) rfl rfl (Nat.le_of_ble_eq_true rfl) rfl dX10_append_37 (fun H locs S_8 e1 hW => ?_)
    have hTy : Ty cy L kap (pr.1 + 1, pr.2) S_8 := hTy.p1 (n := pr.1 + 1) e1 hT_tp (fun b9 hb9 => hu10 b9 tp hb9 hT_tp) ⟨x_1, rfl, hT_x_1, (by show pr.1 + 1 ≤ 900; omega)⟩
    have hS_x_1 := un e1 hT_x_1 hT_tp (by decide) hS_x_1
    have hFr := uf hFr e1 hT_tp (by decide) (by decide)
    have hS_tp := us e1
    refine lv_iinc (v := 16) (lv' := [(2, .int 16), (0, .ref tp), (1, .int v)]) hx hb dX10_append_40 hl (k := 0) rfl (by decide) (by decide) rfl (fun ls hl => ?_)
    refine lv_goto (tgt := 3) hx hb dX10_append_43 (by decide) ?_
    refine lv_iload_n hx hb dX10_append_3 rfl (lv_at hl 0 rfl) ?_
    refine lv_if_lt (tgt := 46) hx hb dX10_append_4 (by decide) (fun h => absurd h (by decide)) (fun _ => ?_)
    refine lv_aload_n hx hb dX10_append_7 rfl (lv_at hl 1 rfl) ?_
    refine pl_get (ci := 10) (v := .int (nI (pr.1 + 1))) (C := RX10) (T := TX10) (N := 2) hx hb hT iX10 hown hK hW hT_tp.1 hS_tp rfl 1 (by decide) w39 rfl dX10_append_8 ?_
    refine lv_sipush (v := 900) hx hb dX10_append_11 (by decide) ?_
    refine lv_icmp_ge (tgt := 40) hx hb dX10_append_14 (by decide) (fun c_14 => ?_) (fun c_14 => ?_)
    · have c_14 : 900 ≤ (pr.1 + 1) := (nI_leI (a := 900) (b := pr.1 + 1) (by omega) (by omega)).mp c_14
      exfalso; omega
    · have c_14 : ¬ (900 ≤ (pr.1 + 1)) := fun hh9 => c_14 ((nI_leI (a := 900) (b := pr.1 + 1) (by omega) (by omega)).mpr hh9)
      refine lv_aload_n hx hb dX10_append_17 rfl (lv_at hl 1 rfl) ?_
      refine pl_get (ci := 10) (v := .ref x_1) (C := RX10) (T := TX10) (N := 2) hx hb hT iX10 hown hK hW hT_tp.1 hS_tp rfl 0 (by decide) w36 rfl dX10_append_18 ?_
      refine lv_aload_n hx hb dX10_append_21 rfl (lv_at hl 1 rfl) ?_
      refine pl_get (ci := 10) (v := .int (nI (pr.1 + 1))) (C := RX10) (T := TX10) (N := 2) hx hb hT iX10 hown hK hW hT_tp.1 hS_tp rfl 1 (by decide) w39 rfl dX10_append_22 ?_
      refine lv_iload_n hx hb dX10_append_25 rfl (lv_at hl 2 rfl) ?_
      refine lv_iload_n hx hb dX10_append_26 rfl (lv_at hl 0 rfl) ?_
      refine lv_iushr hx hb dX10_append_27 rfl ?_
      refine lv_topi (fun z_9 ez_9 => ?_)
      refine lv_i2b hx hb dX10_append_28 rfl ?_
      refine lv_topi (fun z_10 ez_10 => ?_)
      refine pl_bast hx hb hK hW hT_x_1.1 hS_x_1 (vp_in_nI (n := pr.1 + 1) (N := 900) (by omega) (by omega)) dX10_append_29 (fun H locs f_12 S_11 ef_f_12 e1 hW => ?_)
      have hTy := hTy.u27 e1 hT_x_1 ⟨f_12, rfl⟩
      have hS_tp := un e1 hT_tp hT_x_1 (by decide) hS_tp
      have hFr := uf hFr e1 hT_x_1 (by decide) (by decide)
      have hS_x_1 := us e1
      have hap2 := APC_s (g := g) (t := pr.1) (v := v) (i := 1) hap1 ef_f_12 (by omega) ez_10 ez_9 (by decide) (by omega)
      refine lv_aload_n hx hb dX10_append_30 rfl (lv_at hl 1 rfl) ?_
      refine lv_dup hx hb dX10_append_31 rfl ?_
      refine pl_get (ci := 10) (v := .int (nI (pr.1 + 1))) (C := RX10) (T := TX10) (N := 2) hx hb hT iX10 hown hK hW hT_tp.1 hS_tp rfl 1 (by decide) w39 rfl dX10_append_32 ?_
      refine lv_iconst (v := 1) hx hb dX10_append_35 (by decide) ?_
      refine lv_iadd hx hb dX10_append_36 ?_
      refine lv_topi (fun z_13 ez_13 => ?_)
      obtain rfl : z_13 = nI ((pr.1 + 1) + 1) := ez_13.trans (nI_add (pr.1 + 1) (1))
      refine pl_put (ci := 10) (v := .int (nI ((pr.1 + 1) + 1))) (ty := .int) (C := RX10) (T := TX10) (N := 2) (fs' := [.ref x_1, .int (nI ((pr.1 + 1) + 1))]) hx hb hT iX10 tyX10 tyX10_ok nmX10 hown hK hW hT_tp.1 hS_tp rfl 1 (by decide) w39 rfl (by decide +kernel) rfl rfl (Nat.le_of_ble_eq_true rfl) rfl dX10_append_37 (fun H locs S_14 e1 hW => ?_)
      have hTy : Ty cy L kap ((pr.1 + 1) + 1, pr.2) S_14 := hTy.p1 (n := (pr.1 + 1) + 1) e1 hT_tp (fun b9 hb9 => hu10 b9 tp hb9 hT_tp) ⟨x_1, rfl, hT_x_1, (by show (pr.1 + 1) + 1 ≤ 900; omega)⟩
      have hS_x_1 := un e1 hT_x_1 hT_tp (by decide) hS_x_1
      have hFr := uf hFr e1 hT_tp (by decide) (by decide)
      have hS_tp := us e1
      refine lv_iinc (v := 8) (lv' := [(2, .int 8), (0, .ref tp), (1, .int v)]) hx hb dX10_append_40 hl (k := 0) rfl (by decide) (by decide) rfl (fun ls hl => ?_)
      refine lv_goto (tgt := 3) hx hb dX10_append_43 (by decide) ?_
      refine lv_iload_n hx hb dX10_append_3 rfl (lv_at hl 0 rfl) ?_
      refine lv_if_lt (tgt := 46) hx hb dX10_append_4 (by decide) (fun h => absurd h (by decide)) (fun _ => ?_)
      refine lv_aload_n hx hb dX10_append_7 rfl (lv_at hl 1 rfl) ?_
      refine pl_get (ci := 10) (v := .int (nI ((pr.1 + 1) + 1))) (C := RX10) (T := TX10) (N := 2) hx hb hT iX10 hown hK hW hT_tp.1 hS_tp rfl 1 (by decide) w39 rfl dX10_append_8 ?_
      refine lv_sipush (v := 900) hx hb dX10_append_11 (by decide) ?_
      refine lv_icmp_ge (tgt := 40) hx hb dX10_append_14 (by decide) (fun c_14 => ?_) (fun c_14 => ?_)
      · have c_14 : 900 ≤ ((pr.1 + 1) + 1) := (nI_leI (a := 900) (b := (pr.1 + 1) + 1) (by omega) (by omega)).mp c_14
        exfalso; omega
      · have c_14 : ¬ (900 ≤ ((pr.1 + 1) + 1)) := fun hh9 => c_14 ((nI_leI (a := 900) (b := (pr.1 + 1) + 1) (by omega) (by omega)).mpr hh9)
        refine lv_aload_n hx hb dX10_append_17 rfl (lv_at hl 1 rfl) ?_
        refine pl_get (ci := 10) (v := .ref x_1) (C := RX10) (T := TX10) (N := 2) hx hb hT iX10 hown hK hW hT_tp.1 hS_tp rfl 0 (by decide) w36 rfl dX10_append_18 ?_
        refine lv_aload_n hx hb dX10_append_21 rfl (lv_at hl 1 rfl) ?_
        refine pl_get (ci := 10) (v := .int (nI ((pr.1 + 1) + 1))) (C := RX10) (T := TX10) (N := 2) hx hb hT iX10 hown hK hW hT_tp.1 hS_tp rfl 1 (by decide) w39 rfl dX10_append_22 ?_
        refine lv_iload_n hx hb dX10_append_25 rfl (lv_at hl 2 rfl) ?_
        refine lv_iload_n hx hb dX10_append_26 rfl (lv_at hl 0 rfl) ?_
        refine lv_iushr hx hb dX10_append_27 rfl ?_
        refine lv_topi (fun z_15 ez_15 => ?_)
        refine lv_i2b hx hb dX10_append_28 rfl ?_
        refine lv_topi (fun z_16 ez_16 => ?_)
        refine pl_bast hx hb hK hW hT_x_1.1 hS_x_1 (vp_in_nI (n := (pr.1 + 1) + 1) (N := 900) (by omega) (by omega)) dX10_append_29 (fun H locs f_18 S_17 ef_f_18 e1 hW => ?_)
        have hTy := hTy.u27 e1 hT_x_1 ⟨f_18, rfl⟩
        have hS_tp := un e1 hT_tp hT_x_1 (by decide) hS_tp
        have hFr := uf hFr e1 hT_x_1 (by decide) (by decide)
        have hS_x_1 := us e1
        have hap3 := APC_s (g := g) (t := pr.1) (v := v) (i := 2) hap2 ef_f_18 (by omega) ez_16 ez_15 (by decide) (by omega)
        refine lv_aload_n hx hb dX10_append_30 rfl (lv_at hl 1 rfl) ?_
        refine lv_dup hx hb dX10_append_31 rfl ?_
        refine pl_get (ci := 10) (v := .int (nI ((pr.1 + 1) + 1))) (C := RX10) (T := TX10) (N := 2) hx hb hT iX10 hown hK hW hT_tp.1 hS_tp rfl 1 (by decide) w39 rfl dX10_append_32 ?_
        refine lv_iconst (v := 1) hx hb dX10_append_35 (by decide) ?_
        refine lv_iadd hx hb dX10_append_36 ?_
        refine lv_topi (fun z_19 ez_19 => ?_)
        obtain rfl : z_19 = nI (((pr.1 + 1) + 1) + 1) := ez_19.trans (nI_add ((pr.1 + 1) + 1) (1))
        refine pl_put (ci := 10) (v := .int (nI (((pr.1 + 1) + 1) + 1))) (ty := .int) (C := RX10) (T := TX10) (N := 2) (fs' := [.ref x_1, .int (nI (((pr.1 + 1) + 1) + 1))]) hx hb hT iX10 tyX10 tyX10_ok nmX10 hown hK hW hT_tp.1 hS_tp rfl 1 (by decide) w39 rfl (by decide +kernel) rfl rfl (Nat.le_of_ble_eq_true rfl) rfl dX10_append_37 (fun H locs S_20 e1 hW => ?_)
        have hTy : Ty cy L kap (((pr.1 + 1) + 1) + 1, pr.2) S_20 := hTy.p1 (n := ((pr.1 + 1) + 1) + 1) e1 hT_tp (fun b9 hb9 => hu10 b9 tp hb9 hT_tp) ⟨x_1, rfl, hT_x_1, (by show ((pr.1 + 1) + 1) + 1 ≤ 900; omega)⟩
        have hS_x_1 := un e1 hT_x_1 hT_tp (by decide) hS_x_1
        have hFr := uf hFr e1 hT_tp (by decide) (by decide)
        have hS_tp := us e1
        refine lv_iinc (v := 0) (lv' := [(2, .int 0), (0, .ref tp), (1, .int v)]) hx hb dX10_append_40 hl (k := 0) rfl (by decide) (by decide) rfl (fun ls hl => ?_)
        refine lv_goto (tgt := 3) hx hb dX10_append_43 (by decide) ?_
        refine lv_iload_n hx hb dX10_append_3 rfl (lv_at hl 0 rfl) ?_
        refine lv_if_lt (tgt := 46) hx hb dX10_append_4 (by decide) (fun h => absurd h (by decide)) (fun _ => ?_)
        refine lv_aload_n hx hb dX10_append_7 rfl (lv_at hl 1 rfl) ?_
        refine pl_get (ci := 10) (v := .int (nI (((pr.1 + 1) + 1) + 1))) (C := RX10) (T := TX10) (N := 2) hx hb hT iX10 hown hK hW hT_tp.1 hS_tp rfl 1 (by decide) w39 rfl dX10_append_8 ?_
        refine lv_sipush (v := 900) hx hb dX10_append_11 (by decide) ?_
        refine lv_icmp_ge (tgt := 40) hx hb dX10_append_14 (by decide) (fun c_14 => ?_) (fun c_14 => ?_)
        · have c_14 : 900 ≤ (((pr.1 + 1) + 1) + 1) := (nI_leI (a := 900) (b := ((pr.1 + 1) + 1) + 1) (by omega) (by omega)).mp c_14
          exfalso; omega
        · have c_14 : ¬ (900 ≤ (((pr.1 + 1) + 1) + 1)) := fun hh9 => c_14 ((nI_leI (a := 900) (b := ((pr.1 + 1) + 1) + 1) (by omega) (by omega)).mpr hh9)
          refine lv_aload_n hx hb dX10_append_17 rfl (lv_at hl 1 rfl) ?_
          refine pl_get (ci := 10) (v := .ref x_1) (C := RX10) (T := TX10) (N := 2) hx hb hT iX10 hown hK hW hT_tp.1 hS_tp rfl 0 (by decide) w36 rfl dX10_append_18 ?_
          refine lv_aload_n hx hb dX10_append_21 rfl (lv_at hl 1 rfl) ?_
          refine pl_get (ci := 10) (v := .int (nI (((pr.1 + 1) + 1) + 1))) (C := RX10) (T := TX10) (N := 2) hx hb hT iX10 hown hK hW hT_tp.1 hS_tp rfl 1 (by decide) w39 rfl dX10_append_22 ?_
          refine lv_iload_n hx hb dX10_append_25 rfl (lv_at hl 2 rfl) ?_
          refine lv_iload_n hx hb dX10_append_26 rfl (lv_at hl 0 rfl) ?_
          refine lv_iushr hx hb dX10_append_27 rfl ?_
          refine lv_topi (fun z_21 ez_21 => ?_)
          refine lv_i2b hx hb dX10_append_28 rfl ?_
          refine lv_topi (fun z_22 ez_22 => ?_)
          refine pl_bast hx hb hK hW hT_x_1.1 hS_x_1 (vp_in_nI (n := ((pr.1 + 1) + 1) + 1) (N := 900) (by omega) (by omega)) dX10_append_29 (fun H locs f_24 S_23 ef_f_24 e1 hW => ?_)
          have hTy := hTy.u27 e1 hT_x_1 ⟨f_24, rfl⟩
          have hS_tp := un e1 hT_tp hT_x_1 (by decide) hS_tp
          have hFr := uf hFr e1 hT_x_1 (by decide) (by decide)
          have hS_x_1 := us e1
          have hap4 := APC_s (g := g) (t := pr.1) (v := v) (i := 3) hap3 ef_f_24 (by omega) ez_22 ez_21 (by decide) (by omega)
          refine lv_aload_n hx hb dX10_append_30 rfl (lv_at hl 1 rfl) ?_
          refine lv_dup hx hb dX10_append_31 rfl ?_
          refine pl_get (ci := 10) (v := .int (nI (((pr.1 + 1) + 1) + 1))) (C := RX10) (T := TX10) (N := 2) hx hb hT iX10 hown hK hW hT_tp.1 hS_tp rfl 1 (by decide) w39 rfl dX10_append_32 ?_
          refine lv_iconst (v := 1) hx hb dX10_append_35 (by decide) ?_
          refine lv_iadd hx hb dX10_append_36 ?_
          refine lv_topi (fun z_25 ez_25 => ?_)
          obtain rfl : z_25 = nI ((((pr.1 + 1) + 1) + 1) + 1) := ez_25.trans (nI_add (((pr.1 + 1) + 1) + 1) (1))
          refine pl_put (ci := 10) (v := .int (nI ((((pr.1 + 1) + 1) + 1) + 1))) (ty := .int) (C := RX10) (T := TX10) (N := 2) (fs' := [.ref x_1, .int (nI ((((pr.1 + 1) + 1) + 1) + 1))]) hx hb hT iX10 tyX10 tyX10_ok nmX10 hown hK hW hT_tp.1 hS_tp rfl 1 (by decide) w39 rfl (by decide +kernel) rfl rfl (Nat.le_of_ble_eq_true rfl) rfl dX10_append_37 (fun H locs S_26 e1 hW => ?_)
          have hTy : Ty cy L kap ((((pr.1 + 1) + 1) + 1) + 1, pr.2) S_26 := hTy.p1 (n := (((pr.1 + 1) + 1) + 1) + 1) e1 hT_tp (fun b9 hb9 => hu10 b9 tp hb9 hT_tp) ⟨x_1, rfl, hT_x_1, (by show (((pr.1 + 1) + 1) + 1) + 1 ≤ 900; omega)⟩
          have hS_x_1 := un e1 hT_x_1 hT_tp (by decide) hS_x_1
          have hFr := uf hFr e1 hT_tp (by decide) (by decide)
          have hS_tp := us e1
          refine lv_iinc (v := (-8)) (lv' := [(2, .int (-8)), (0, .ref tp), (1, .int v)]) hx hb dX10_append_40 hl (k := 0) rfl (by decide) (by decide) rfl (fun ls hl => ?_)
          refine lv_goto (tgt := 3) hx hb dX10_append_43 (by decide) ?_
          refine lv_iload_n hx hb dX10_append_3 rfl (lv_at hl 0 rfl) ?_
          refine lv_if_lt (tgt := 46) hx hb dX10_append_4 (by decide) (fun _ => ?_) (fun h => absurd (by decide) h)
          have hTy : Ty cy L kap (pr.1 + 4, pr.2) S_26 := hTy
          exact W.vret hx hb hr (fun t ht h9 => ⟨⟨S_26, rfl, ⟨hTy, hFr, (fun b9 hb9 => by rw [hu27 b9 x_1 hb9 hT_x_1, af_i hS_x_1]; exact hap4)⟩, by rw [ht]; exact hW.1, va_K.moved h9.alike hK, hW.2.1⟩, hW.2.2.F ht⟩) hW.2.2.2.2 dX10_append_46

set_option maxHeartbeats 4000000 in
set_option maxRecDepth 100000 in
theorem q_feed (l : Launch) (dC : Nat → ClassId) (dI : Nat → Nat → Nat) (cy : Nat → ClassId) (L : List Nat) (kap : Nat → Nat) (pr : Pr) (S : Nat → va_E) (sz : Nat) (o : Nat) (va : Int32) (vb : Int32) (vc : Int32) (vd : Int32) (ve : Int32) (hTy : Ty cy L kap pr S) (hT_o : TK L kap o 11) (hu10 : ∀ b9 c9, TK L kap b9 10 → TK L kap c9 10 → b9 = c9) (hu27 : ∀ b9 c9, TK L kap b9 27 → TK L kap c9 27 → b9 = c9) (g : Nat → Int32) (hgE : KG L kap S 27 g) : Met l yX11_feed (wT yX11_feed cX11_feed 6 (some .int)) ({ frames := 1, cells := 0, slots := 0, locals := 22 }) (pcN dC dI [.ref o, .int va, .int vb, .int vc, .int vd, .int ve] sz (va_pl L S) (cyT cy) NLs []) (va_Qi (fun r S' => Ty cy L kap (fd pr.1, pr.2) S' ∧ Fr kap [10, 27] S S' ∧ ((r = if 900 < pr.1 + 20 then -4 else nI (pr.1 + 20)) ∧ KG L kap S' 27 (FDX g pr.1 va vb vc vd ve))) (fun S' t => pB dC dI (AL L sz) (va_pl L S') (cyT cy) t) (AL L sz)) 0 0 (AL L sz) := by
  refine Met.ofW (cc := cX11_feed) (maxL := 6) (ret := (some .int)) (by decide) rfl ?_
  intro p e s m args below meth c s₁ B hml hv
  obtain ⟨rfl, hsz, hP, hK, hD0, hN, -⟩ := hv
  have hx := B.exec
  have hb := B.bytes
  have hr := B.returns
  have hT : ∀ wd ∈ TB, wd.before [.ref o, .int va, .int vb, .int vc, .int vd, .int ve].toArray s = true := fun wd h => atoms_spec (ws := wT yX11_feed cX11_feed 6 (some .int)) B.pre wd (List.mem_cons_of_mem _ h)
  have hown : s.vm.findClass RX11 = some m.cls := findClass_of_methodNamed B.named
  have hlocks := B.notSynchronized
  subst hsz
  have hW : PW dC dI L (AL L s.heap.size) s.heap S s.heap [] := ⟨hP, pl_self hD0, va_S.rf⟩
  have hA0 : ∀ q, q ∈ L → AL L s.heap.size q := fun _ h => Or.inl h
  have hA : ∀ q, s.heap.size ≤ q → AL L s.heap.size q := fun _ h => Or.inr h
  have hFr : Fr kap [10, 27] S S := Fr.rf
  have hl := lv_entry ([.ref o, .int va, .int vb, .int vc, .int vd, .int ve]) (n := 6) (Nat.le_of_ble_eq_true rfl)
  rw [lg_entry_eq]
  generalize (lg_sl ([.ref o, .int va, .int vb, .int vc, .int vd, .int ve]) ++ List.replicate (6 - (lg_sl ([.ref o, .int va, .int vb, .int vc, .int vd, .int ve])).length) Slot.unset).toArray = ls at hl ⊢
  have hl : lv_has ls 6 [(0, .ref o), (1, .int va), (2, .int vb), (3, .int vc), (4, .int vd), (5, .int ve)] := hl
  refine lv_aload_n hx hb dX11_feed_0 rfl (lv_at hl 0 rfl) ?_
  obtain ⟨x_1, x_2, x_3, x_4, x_5, x_6, x_7, x_8, x_9, x_10, x_11, x_12, x_13, hS_o, hT_x_1, hT_x_2, hT_x_3, hT_x_4, hT_x_5, hT_x_6, hT_x_7, hT_x_8, hT_x_9, hT_x_10, hT_x_11, hT_x_12⟩ := hTy.k11 hT_o
  refine pl_get (ci := 11) (v := .ref x_1) (C := RX11) (T := TX11) (N := 13) hx hb hT iX11 hown hK hW hT_o.1 hS_o rfl 0 (by decide) w353 rfl dX11_feed_1 ?_
  obtain ⟨x_14, hS_x_1, hT_x_14, hb_q1⟩ := hTy.k10 hT_x_1
  have hb_q1 : pr.1 ≤ 900 := hb_q1
  have hS_x_1 : S x_1 = .inr (10, [.ref x_14, .int (nI (pr.1))]) := hS_x_1
  refine pl_get (ci := 10) (v := .int (nI (pr.1))) (C := RX10) (T := TX10) (N := 2) hx hb hT iX10 hown hK hW hT_x_1.1 hS_x_1 rfl 1 (by decide) w38 rfl dX11_feed_4 ?_
  refine lv_bipush (v := 20) hx hb dX11_feed_7 (by decide) ?_
  refine lv_iadd hx hb dX11_feed_9 ?_
  refine lv_topi (fun z_15 ez_15 => ?_)
  obtain rfl : z_15 = nI (pr.1 + 20) := ez_15.trans (nI_add (pr.1) (20))
  refine lv_sipush (v := 900) hx hb dX11_feed_10 (by decide) ?_
  refine lv_icmp_le (tgt := 19) hx hb dX11_feed_13 (by decide) (fun c_13 => ?_) (fun c_13 => ?_)
  · have c_13 : (pr.1 + 20) ≤ 900 := (nI_leI (a := pr.1 + 20) (b := 900) (by omega) (by omega)).mp c_13
    refine lv_aload_n hx hb dX11_feed_19 rfl (lv_at hl 0 rfl) ?_
    refine pl_get (ci := 11) (v := .ref x_1) (C := RX11) (T := TX11) (N := 13) hx hb hT iX11 hown hK hW hT_o.1 hS_o rfl 0 (by decide) w353 rfl dX11_feed_20 ?_
    refine lv_iload_n hx hb dX11_feed_23 rfl (lv_at hl 1 rfl) ?_
    refine pl_callv (va_runV (As := [.int va]) (rest := []) ⟨hx, hb, hml, hown, hT⟩ (q_append l dC dI cy L kap pr S s.heap.size x_1 va hTy hT_x_1 hu10 hu27 (show pr.1 + 4 ≤ 900 from by omega) (g) hgE) (cwV 1 hT (gV w397 w398 w399 w2 w400) rfl rfl rfl (by decide +kernel) ⟨(Nat.le_of_ble_eq_true rfl), (Nat.le_of_ble_eq_true rfl)⟩) ⟨pcN.blind, pl_recv hK hW hT_x_1.1 hS_x_1 rfl, pcN.pre hW.1 hK hW.2.1 hN (fun q h => absurd h List.not_mem_nil)⟩ rfl rfl hl.1 rfl (lv_room (Nat.le_of_ble_eq_true rfl)) dX11_feed_24 ⟨(Nat.le_of_ble_eq_true rfl), (Nat.le_of_ble_eq_true rfl)⟩) hW hA0 hA (fun S_16 H locs hrel hW => ?_)
    obtain ⟨hTy, hF1, hx1⟩ := hrel
    have hTy : Ty cy L kap (pr.1 + 4, pr.2) S_16 := hTy
    have hFr := hFr.tr hF1 (by decide)
    have hS_o := hF1.at hT_o (by decide) hS_o
    have hag1 : KG L kap S_16 27 (APC (g) (pr.1) va 4) := hx1
    refine lv_aload_n hx hb dX11_feed_27 rfl (lv_at hl 0 rfl) ?_
    refine pl_get (ci := 11) (v := .ref x_1) (C := RX11) (T := TX11) (N := 13) hx hb hT iX11 hown hK hW hT_o.1 hS_o rfl 0 (by decide) w353 rfl dX11_feed_28 ?_
    refine lv_iload_n hx hb dX11_feed_31 rfl (lv_at hl 2 rfl) ?_
    obtain ⟨x_17, hS_x_1, hT_x_17, hb_q1⟩ := hTy.k10 hT_x_1
    have hb_q1 : pr.1 + 4 ≤ 900 := hb_q1
    have hS_x_1 : S_16 x_1 = .inr (10, [.ref x_17, .int (nI (pr.1 + 4))]) := hS_x_1
    refine pl_callv (va_runV (As := [.int vb]) (rest := []) ⟨hx, hb, hml, hown, hT⟩ (q_append l dC dI cy L kap (pr.1 + 4, pr.2) S_16 H.size x_1 vb hTy hT_x_1 hu10 hu27 (show (pr.1 + 4) + 4 ≤ 900 from by omega) (APC (g) (pr.1) va 4) hag1) (cwV 1 hT (gV w397 w398 w399 w2 w400) rfl rfl rfl (by decide +kernel) ⟨(Nat.le_of_ble_eq_true rfl), (Nat.le_of_ble_eq_true rfl)⟩) ⟨pcN.blind, pl_recv hK hW hT_x_1.1 hS_x_1 rfl, pcN.pre hW.1 hK hW.2.1 hN (fun q h => absurd h List.not_mem_nil)⟩ rfl rfl hl.1 rfl (lv_room (Nat.le_of_ble_eq_true rfl)) dX11_feed_32 ⟨(Nat.le_of_ble_eq_true rfl), (Nat.le_of_ble_eq_true rfl)⟩) hW hA0 hA (fun S_18 H locs hrel hW => ?_)
    obtain ⟨hTy, hF1, hx1⟩ := hrel
    have hTy : Ty cy L kap ((pr.1 + 4) + 4, pr.2) S_18 := hTy
    have hFr := hFr.tr hF1 (by decide)
    have hS_o := hF1.at hT_o (by decide) hS_o
    have hag2 : KG L kap S_18 27 (APC (APC (g) (pr.1) va 4) (pr.1 + 4) vb 4) := hx1
    refine lv_aload_n hx hb dX11_feed_35 rfl (lv_at hl 0 rfl) ?_
    refine pl_get (ci := 11) (v := .ref x_1) (C := RX11) (T := TX11) (N := 13) hx hb hT iX11 hown hK hW hT_o.1 hS_o rfl 0 (by decide) w353 rfl dX11_feed_36 ?_
    refine lv_iload_n hx hb dX11_feed_39 rfl (lv_at hl 3 rfl) ?_
    obtain ⟨x_19, hS_x_1, hT_x_19, hb_q1⟩ := hTy.k10 hT_x_1
    have hb_q1 : (pr.1 + 4) + 4 ≤ 900 := hb_q1
    have hS_x_1 : S_18 x_1 = .inr (10, [.ref x_19, .int (nI ((pr.1 + 4) + 4))]) := hS_x_1
    refine pl_callv (va_runV (As := [.int vc]) (rest := []) ⟨hx, hb, hml, hown, hT⟩ (q_append l dC dI cy L kap ((pr.1 + 4) + 4, pr.2) S_18 H.size x_1 vc hTy hT_x_1 hu10 hu27 (show ((pr.1 + 4) + 4) + 4 ≤ 900 from by omega) (APC (APC (g) (pr.1) va 4) (pr.1 + 4) vb 4) hag2) (cwV 1 hT (gV w397 w398 w399 w2 w400) rfl rfl rfl (by decide +kernel) ⟨(Nat.le_of_ble_eq_true rfl), (Nat.le_of_ble_eq_true rfl)⟩) ⟨pcN.blind, pl_recv hK hW hT_x_1.1 hS_x_1 rfl, pcN.pre hW.1 hK hW.2.1 hN (fun q h => absurd h List.not_mem_nil)⟩ rfl rfl hl.1 rfl (lv_room (Nat.le_of_ble_eq_true rfl)) dX11_feed_40 ⟨(Nat.le_of_ble_eq_true rfl), (Nat.le_of_ble_eq_true rfl)⟩) hW hA0 hA (fun S_20 H locs hrel hW => ?_)
    obtain ⟨hTy, hF1, hx1⟩ := hrel
    have hTy : Ty cy L kap (((pr.1 + 4) + 4) + 4, pr.2) S_20 := hTy
    have hFr := hFr.tr hF1 (by decide)
    have hS_o := hF1.at hT_o (by decide) hS_o
    have hag3 : KG L kap S_20 27 (APC (APC (APC (g) (pr.1) va 4) (pr.1 + 4) vb 4) (pr.1 + 4 + 4) vc 4) := hx1
    refine lv_aload_n hx hb dX11_feed_43 rfl (lv_at hl 0 rfl) ?_
    refine pl_get (ci := 11) (v := .ref x_1) (C := RX11) (T := TX11) (N := 13) hx hb hT iX11 hown hK hW hT_o.1 hS_o rfl 0 (by decide) w353 rfl dX11_feed_44 ?_
    refine lv_iload hx hb dX11_feed_47 (lv_at hl 4 rfl) ?_
    obtain ⟨x_21, hS_x_1, hT_x_21, hb_q1⟩ := hTy.k10 hT_x_1
    have hb_q1 : ((pr.1 + 4) + 4) + 4 ≤ 900 := hb_q1
    have hS_x_1 : S_20 x_1 = .inr (10, [.ref x_21, .int (nI (((pr.1 + 4) + 4) + 4))]) := hS_x_1
    refine pl_callv (va_runV (As := [.int vd]) (rest := []) ⟨hx, hb, hml, hown, hT⟩ (q_append l dC dI cy L kap (((pr.1 + 4) + 4) + 4, pr.2) S_20 H.size x_1 vd hTy hT_x_1 hu10 hu27 (show (((pr.1 + 4) + 4) + 4) + 4 ≤ 900 from by omega) (APC (APC (APC (g) (pr.1) va 4) (pr.1 + 4) vb 4) (pr.1 + 4 + 4) vc 4) hag3) (cwV 1 hT (gV w397 w398 w399 w2 w400) rfl rfl rfl (by decide +kernel) ⟨(Nat.le_of_ble_eq_true rfl), (Nat.le_of_ble_eq_true rfl)⟩) ⟨pcN.blind, pl_recv hK hW hT_x_1.1 hS_x_1 rfl, pcN.pre hW.1 hK hW.2.1 hN (fun q h => absurd h List.not_mem_nil)⟩ rfl rfl hl.1 rfl (lv_room (Nat.le_of_ble_eq_true rfl)) dX11_feed_49 ⟨(Nat.le_of_ble_eq_true rfl), (Nat.le_of_ble_eq_true rfl)⟩) hW hA0 hA (fun S_22 H locs hrel hW => ?_)
    obtain ⟨hTy, hF1, hx1⟩ := hrel
    have hTy : Ty cy L kap ((((pr.1 + 4) + 4) + 4) + 4, pr.2) S_22 := hTy
    have hFr := hFr.tr hF1 (by decide)
    have hS_o := hF1.at hT_o (by decide) hS_o
    have hag4 : KG L kap S_22 27 (APC (APC (APC (APC (g) (pr.1) va 4) (pr.1 + 4) vb 4) (pr.1 + 4 + 4) vc 4) (pr.1 + 4 + 4 + 4) vd 4) := hx1
    refine lv_aload_n hx hb dX11_feed_52 rfl (lv_at hl 0 rfl) ?_
    refine pl_get (ci := 11) (v := .ref x_1) (C := RX11) (T := TX11) (N := 13) hx hb hT iX11 hown hK hW hT_o.1 hS_o rfl 0 (by decide) w353 rfl dX11_feed_53 ?_
    refine lv_iload hx hb dX11_feed_56 (lv_at hl 5 rfl) ?_
    obtain ⟨x_23, hS_x_1, hT_x_23, hb_q1⟩ := hTy.k10 hT_x_1
    have hb_q1 : (((pr.1 + 4) + 4) + 4) + 4 ≤ 900 := hb_q1
    have hS_x_1 : S_22 x_1 = .inr (10, [.ref x_23, .int (nI ((((pr.1 + 4) + 4) + 4) + 4))]) := hS_x_1
    refine pl_callv (va_runV (As := [.int ve]) (rest := []) ⟨hx, hb, hml, hown, hT⟩ (q_append l dC dI cy L kap ((((pr.1 + 4) + 4) + 4) + 4, pr.2) S_22 H.size x_1 ve hTy hT_x_1 hu10 hu27 (show ((((pr.1 + 4) + 4) + 4) + 4) + 4 ≤ 900 from by omega) (APC (APC (APC (APC (g) (pr.1) va 4) (pr.1 + 4) vb 4) (pr.1 + 4 + 4) vc 4) (pr.1 + 4 + 4 + 4) vd 4) hag4) (cwV 1 hT (gV w397 w398 w399 w2 w400) rfl rfl rfl (by decide +kernel) ⟨(Nat.le_of_ble_eq_true rfl), (Nat.le_of_ble_eq_true rfl)⟩) ⟨pcN.blind, pl_recv hK hW hT_x_1.1 hS_x_1 rfl, pcN.pre hW.1 hK hW.2.1 hN (fun q h => absurd h List.not_mem_nil)⟩ rfl rfl hl.1 rfl (lv_room (Nat.le_of_ble_eq_true rfl)) dX11_feed_58 ⟨(Nat.le_of_ble_eq_true rfl), (Nat.le_of_ble_eq_true rfl)⟩) hW hA0 hA (fun S_24 H locs hrel hW => ?_)
    obtain ⟨hTy, hF1, hx1⟩ := hrel
    have hTy : Ty cy L kap (((((pr.1 + 4) + 4) + 4) + 4) + 4, pr.2) S_24 := hTy
    have hFr := hFr.tr hF1 (by decide)
    have hS_o := hF1.at hT_o (by decide) hS_o
    have hag5 : KG L kap S_24 27 (APC (APC (APC (APC (APC (g) (pr.1) va 4) (pr.1 + 4) vb 4) (pr.1 + 4 + 4) vc 4) (pr.1 + 4 + 4 + 4) vd 4) (pr.1 + 4 + 4 + 4 + 4) ve 4) := hx1
    refine lv_aload_n hx hb dX11_feed_61 rfl (lv_at hl 0 rfl) ?_
    refine pl_get (ci := 11) (v := .ref x_1) (C := RX11) (T := TX11) (N := 13) hx hb hT iX11 hown hK hW hT_o.1 hS_o rfl 0 (by decide) w353 rfl dX11_feed_62 ?_
    obtain ⟨x_25, hS_x_1, hT_x_25, hb_q1⟩ := hTy.k10 hT_x_1
    have hb_q1 : ((((pr.1 + 4) + 4) + 4) + 4) + 4 ≤ 900 := hb_q1
    have hS_x_1 : S_24 x_1 = .inr (10, [.ref x_25, .int (nI (((((pr.1 + 4) + 4) + 4) + 4) + 4))]) := hS_x_1
    refine pl_get (ci := 10) (v := .int (nI (((((pr.1 + 4) + 4) + 4) + 4) + 4))) (C := RX10) (T := TX10) (N := 2) hx hb hT iX10 hown hK hW hT_x_1.1 hS_x_1 rfl 1 (by decide) w38 rfl dX11_feed_65 ?_
    have hTy : Ty cy L kap (fd pr.1, pr.2) S_24 := (by rw [fd, if_neg (by omega)]; exact hTy)
    exact W.iret (v := nI (((((pr.1 + 4) + 4) + 4) + 4) + 4)) hx hb hr (fun t ht h9 => ⟨⟨nI (((((pr.1 + 4) + 4) + 4) + 4) + 4), S_24, rfl, ⟨hTy, hFr, ⟨Eq.trans (show nI (((((pr.1 + 4) + 4) + 4) + 4) + 4) = nI (pr.1 + 20) from rfl) (if_neg (by omega)).symm, by rw [FDX, if_neg (by omega), FD5]; exact hag5⟩⟩, by rw [ht]; exact hW.1, va_K.moved h9.alike hK, hW.2.1⟩, hW.2.2.F ht⟩) hW.2.2.2.2 dX11_feed_68
  · have c_13 : ¬ ((pr.1 + 20) ≤ 900) := fun hh9 => c_13 ((nI_leI (a := pr.1 + 20) (b := 900) (by omega) (by omega)).mpr hh9)
    refine lv_bipush (v := (-4)) hx hb dX11_feed_16 (by decide) ?_
    have hTy : Ty cy L kap (fd pr.1, pr.2) S := (by rw [fd, if_pos (by omega)]; exact hTy)
    exact W.iret (v := (-4)) hx hb hr (fun t ht h9 => ⟨⟨(-4), S, rfl, ⟨hTy, hFr, ⟨(if_pos (by omega)).symm, by rw [FDX, if_pos (by omega)]; exact hgE⟩⟩, by rw [ht]; exact hW.1, va_K.moved h9.alike hK, hW.2.1⟩, hW.2.2.F ht⟩) hW.2.2.2.2 dX11_feed_18

