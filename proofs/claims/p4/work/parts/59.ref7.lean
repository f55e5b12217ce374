/-! lines: errors in their order, and what a line makes -/
def SM (f : Nat → Int32) (mn : Nat) (kf : Nat → Bool) : Prop := f 0 = nI mn ∧ mn ≤ 40 ∧ ∀ t, t < mn → f (2 + 5 * t + 4) = (if kf t = true then 1 else 0)
def ub (kf : Nat → Bool) (i : Nat) (b : Bool) : Nat → Bool := fun j => if j = i then b else kf j
def ud (df : Nat → Nat × Nat) (i : Nat) (d : Nat × Nat) : Nat → Nat × Nat := fun j => if j = i then d else df j
theorem SM_adds {g f1 f2 f3 f4 f5 f6 : Nat → Int32} {mn i1 i2 i3 i4 i5 : Nat} {kf : Nat → Bool} {x1 x2 x3 x4 : Int32} (e1 : f1 = upd g (nI i1).toNatClampNeg x1) (e2 : f2 = upd f1 (nI i2).toNatClampNeg x2) (e3 : f3 = upd f2 (nI i3).toNatClampNeg x3) (e4 : f4 = upd f3 (nI i4).toNatClampNeg x4) (e5 : f5 = upd f4 (nI i5).toNatClampNeg 0) (h6 : f6 0 = nI (mn + 1)) (h7 : ∀ j, 1 ≤ j → f6 j = f5 j) (k1 : i1 = 2 + 5 * mn) (k2 : i2 = i1 + 1) (k3 : i3 = i1 + 2) (k4 : i4 = i1 + 3) (k5 : i5 = i1 + 4) (h : SM g mn kf) (hn : mn < 40) : SM f6 (mn + 1) (ub kf mn false) := by
  refine ⟨h6, by omega, fun t ht => ?_⟩
  subst k1 k2 k3 k4 k5
  rw [nI_clamp (by omega)] at e1 e2 e3 e4 e5
  subst e1 e2 e3 e4 e5
  rw [h7 _ (by omega)]
  by_cases q : t = mn
  · subst q
    rw [show 2 + 5 * t + 4 = 2 + 5 * t + 4 from rfl, pk_us]
    unfold ub
    rw [if_pos rfl]
    rfl
  · rw [pk_un (by omega), pk_un (by omega), pk_un (by omega), pk_un (by omega), pk_un (by omega), h.2.2 t (by omega)]
    unfold ub
    rw [if_neg q]
theorem SM_up {f f1 : Nat → Int32} {mn i : Nat} {kf : Nat → Bool} {x : Int32} (h : SM f mn kf) (e : f1 = upd f (nI i).toNatClampNeg x) (hi : i < 2 ^ 31) (hc : i = 1 ∨ 202 ≤ i) : SM f1 mn kf := by
  rw [nI_clamp hi] at e
  subst e
  have hm := h.2.1
  refine ⟨by rw [pk_un (by omega)]; exact h.1, h.2.1, fun t ht => ?_⟩
  rw [pk_un (by omega)]
  exact h.2.2 t ht
theorem SM_k {f f1 : Nat → Int32} {mn i v : Nat} {kf : Nat → Bool} (h : SM f mn kf) (hv : v < mn) (e : f1 = upd f (nI i).toNatClampNeg 1) (hi : i = 2 + 5 * v + 4) : SM f1 mn (ub kf v true) := by
  have hm := h.2.1
  subst hi
  rw [nI_clamp (by omega)] at e
  subst e
  refine ⟨by rw [pk_un (by omega)]; exact h.1, h.2.1, fun t ht => ?_⟩
  unfold ub
  by_cases q : t = v
  · rw [if_pos q, q, pk_us]
    rfl
  · rw [if_neg q, pk_un (by omega)]
    exact h.2.2 t ht
theorem fe_0 {a b : Nat × Nat} (h : (fe a b).1 = 0) : a.1 = 0 ∧ b.1 = 0 := by
  unfold fe at h
  by_cases q : a.1 = 0
  · rw [if_pos q] at h
    exact ⟨q, h⟩
  · rw [if_neg q] at h
    exact absurd h q
section FOUR
variable {wr wa wr1 wa1 wr2 wa2 wr3 wa3 wr4 wa4 : Int32} {c1 q1 c2 q2 c3 q3 c4 q4 : Nat} {b2 b3 b4 : Nat × Nat}
theorem two_c (h1 : ERR wr wa c1 q1 wr1 wa1) (k1 : c1 < 100) (h2 : ERR wr1 wa1 c2 q2 wr2 wa2) (k2 : c2 < 100) (h3 : ERR wr2 wa2 c3 q3 wr3 wa3) (k3 : c3 < 100) (h4 : ERR wr3 wa3 c4 q4 wr4 wa4) (e2 : wr = 0 → c1 = 0 → (c2, q2) = b2) (e3 : wr = 0 → c1 = 0 → c2 = 0 → (c3, q3) = b3) (e4 : wr = 0 → c1 = 0 → c2 = 0 → c3 = 0 → (c4, q4) = b4) : ERR wr wa (fe (c1, q1) (fe b2 (fe b3 b4))).1 (fe (c1, q1) (fe b2 (fe b3 b4))).2 wr4 wa4 ∧ (wr = 0 → (fe (c1, q1) (fe b2 (fe b3 b4))).1 = 0 → c1 = 0 ∧ c2 = 0 ∧ c3 = 0 ∧ c4 = 0) := by
  have kp3 : wr3 ≠ 0 → wr4 = wr3 ∧ wa4 = wa3 := h4.1
  have kp2 : wr2 ≠ 0 → wr4 = wr2 ∧ wa4 = wa2 := fun z => by
    obtain ⟨a, b⟩ := h3.1 z
    obtain ⟨c, d⟩ := kp3 (by rw [a]; exact z)
    exact ⟨c.trans a, d.trans b⟩
  have kp1 : wr1 ≠ 0 → wr4 = wr1 ∧ wa4 = wa1 := fun z => by
    obtain ⟨a, b⟩ := h2.1 z
    obtain ⟨c, d⟩ := kp2 (by rw [a]; exact z)
    exact ⟨c.trans a, d.trans b⟩
  refine ⟨ERR_t k1 h1 kp1 (fun w0 z1 => ?_), fun w0 hz => ?_⟩
  · have f2 := e2 w0 z1
    obtain ⟨w1, -⟩ := ERR_z h1 w0 z1
    rw [← f2]
    refine ERR_t k2 h2 kp2 (fun _ z2 => ?_)
    have f3 := e3 w0 z1 z2
    obtain ⟨w2, -⟩ := ERR_z h2 w1 z2
    rw [← f3]
    refine ERR_t k3 h3 kp3 (fun _ z3 => ?_)
    have f4 := e4 w0 z1 z2 z3
    rw [← f4]
    exact h4
  · obtain ⟨z1, r1⟩ := fe_0 hz
    have f2 := e2 w0 z1
    obtain ⟨z2, r2⟩ := fe_0 r1
    rw [← f2] at z2
    have f3 := e3 w0 z1 z2
    obtain ⟨z3, r3⟩ := fe_0 r2
    rw [← f3] at z3
    have f4 := e4 w0 z1 z2 z3
    rw [← f4] at r3
    exact ⟨z1, z2, z3, r3⟩
end FOUR
/-- a trade's and a cap's line behind its word -/
def E2 (g : Nat → Int32) (n : Nat) (df : Nat → Nat × Nat) (np nk w p : Nat) : Nat × Nat := fe (ptc g n df 0 np p, SK g n p) (fe (otc g n df np (tke g n p) (nI (FN g df 0 np (SK g n p) (tke g n p - SK g n p))), SK g n (tke g n p)) (fe (nbc g n (tke g n (tke g n p)) (if w = 2 then 1 else 0) (if w = 2 then 999999 else 99999999), SK g n (tke g n (tke g n p))) (if w = 2 then (ptc g n df 8 nk (tke g n (tke g n (tke g n p))), SK g n (tke g n (tke g n (tke g n p)))) else (0, 0))))
def P2 (g : Nat → Int32) (n w p : Nat) : Nat := if w = 2 then tke g n (tke g n (tke g n (tke g n p))) else tke g n (tke g n (tke g n p))

set_option maxHeartbeats 4000000 in
set_option maxRecDepth 100000 in
theorem f_adds (l : Launch) (dC : Nat → ClassId) (dI : Nat → Nat → Nat) (cy : Nat → ClassId) (L : List Nat) (kap : Nat → Nat) (pr : Pr) (S : Nat → va_E) (sz : Nat) (o : Nat) (ga : Nat) (gb : Nat) (am : Int32) (kd : Nat) (hTy : Ty cy L kap pr S) (hT_o : TK L kap o 12) (hb_ga : ga < 8) (hb_gb : gb < 8) (hb_kd : kd < 4) (mn : Nat) (kf : Nat → Bool) (hsm : SM (fld S o 0) mn kf) (h40 : mn < 40) (hdg : dg (fld S o 0)) (hab : ga ≠ gb) : Met l yX12_adds (wT yX12_adds cX12_adds 6 none) ({ frames := 0, cells := 0, slots := 0, locals := 0 }) (pcN dC dI [.ref o, .int (nI ga), .int (nI gb), .int am, .int (nI kd)] sz (va_pl L S) (cyT cy) NLs []) (va_Qv (fun S' => Ty cy L kap pr S' ∧ Fr kap [50] S S' ∧ (SM (fld S' o 0) (mn + 1) (ub kf mn false) ∧ dg (fld S' o 0))) (fun S' t => pB dC dI (AL L sz) (va_pl L S') (cyT cy) t) (AL L sz)) 0 0 (AL L sz) := by
  refine Met.ofW (cc := cX12_adds) (maxL := 6) (ret := none) (by decide) rfl ?_
  intro p e s m args below meth c s₁ B hml hv
  obtain ⟨rfl, hsz, hP, hK, hD0, hN, -⟩ := hv
  have hx := B.exec
  have hb := B.bytes
  have hr := B.returns
  have hT : ∀ wd ∈ TB, wd.before [.ref o, .int (nI ga), .int (nI gb), .int am, .int (nI kd)].toArray s = true := fun wd h => atoms_spec (ws := wT yX12_adds cX12_adds 6 none) B.pre wd (List.mem_cons_of_mem _ h)
  have hown : s.vm.findClass RX12 = some m.cls := findClass_of_methodNamed B.named
  have hlocks := B.notSynchronized
  subst hsz
  have hW : PW dC dI L (AL L s.heap.size) s.heap S s.heap [] := ⟨hP, pl_self hD0, va_S.rf⟩
  have hA0 : ∀ q, q ∈ L → AL L s.heap.size q := fun _ h => Or.inl h
  have hA : ∀ q, s.heap.size ≤ q → AL L s.heap.size q := fun _ h => Or.inr h
  have hFr : Fr kap [50] S S := Fr.rf
  have hl := lv_entry ([.ref o, .int (nI ga), .int (nI gb), .int am, .int (nI kd)]) (n := 6) (Nat.le_of_ble_eq_true rfl)
  rw [lg_entry_eq]
  generalize (lg_sl ([.ref o, .int (nI ga), .int (nI gb), .int am, .int (nI kd)]) ++ List.replicate (6 - (lg_sl ([.ref o, .int (nI ga), .int (nI gb), .int am, .int (nI kd)])).length) Slot.unset).toArray = ls at hl ⊢
  have hl : lv_has ls 6 [(0, .ref o), (1, .int (nI ga)), (2, .int (nI gb)), (3, .int am), (4, .int (nI kd))] := hl
  obtain ⟨x_1, x_2, x_3, x_4, x_5, x_6, x_7, x_8, x_9, x_10, x_11, x_12, x_13, x_14, x_15, x_16, x_17, x_18, x_19, x_20, x_21, x_22, x_23, x_24, x_25, x_26, x_27, x_28, x_29, x_30, x_31, hS_o, hT_x_1, hT_x_2, hT_x_3, hT_x_4, hT_x_5, hb_x_6, hb_x_7, hb_x_8, hT_x_10, hb_q2, hb_x_11, hb_x_12, hT_x_17, hT_x_18, hb_x_19, hT_x_20, hT_x_21, hT_x_22, hT_x_23, hT_x_24, hT_x_25, hT_x_26, hT_x_27, hT_x_28, hT_x_29, hT_x_30, hb_x_31⟩ := hTy.k12 hT_o
  have hb_q2 : pr.2 ≤ 900 := hb_q2
  have hS_o : S o = .inr (12, [.ref x_1, .ref x_2, .ref x_3, .ref x_4, .ref x_5, .int (nI x_6), .int (nI x_7), .int (nI x_8), .int x_9, .ref x_10, .int (nI (pr.2)), .int (nI x_11), .int (nI x_12), .int x_13, .int x_14, .int x_15, .int x_16, .ref x_17, .ref x_18, .int (nI x_19), .ref x_20, .ref x_21, .ref x_22, .ref x_23, .ref x_24, .ref x_25, .ref x_26, .ref x_27, .ref x_28, .ref x_29, .ref x_30, .int (nI x_31)]) := hS_o
  obtain ⟨f_32, hS_x_1, hi_f_32⟩ := hTy.k50 hT_x_1
  have hsm_ := hsm
  rw [fld_i hS_o rfl hS_x_1] at hsm_
  have hdg_ : dg f_32 := by have q := hdg; rw [fld_i hS_o rfl hS_x_1] at q; exact q
  have h0_ := hsm_.1
  have h0g_ := h0_
  refine lv_iconst (v := 2) hx hb dX12_adds_0 (by decide) ?_
  refine lv_iconst (v := 5) hx hb dX12_adds_1 (by decide) ?_
  refine lv_aload_n hx hb dX12_adds_2 rfl (lv_at hl 0 rfl) ?_
  refine pl_get (ci := 12) (v := .ref x_1) (C := RX12) (T := TX12) (N := 32) hx hb hT iX12 hown hK hW hT_o.1 hS_o rfl 0 (by decide) w1082 rfl dX12_adds_3 ?_
  refine lv_iconst (v := 0) hx hb dX12_adds_6 (by decide) ?_
  refine pl_iald hx hb hK hW hT_x_1.1 hS_x_1 (vp_in_nI (n := 0) (N := 266) (by omega) (by omega)) dX12_adds_7 ?_
  refine lv_topi (fun y_33 ey_33 => ?_)
  obtain rfl : y_33 = nI mn := ey_33.trans h0_
  refine lv_imul hx hb dX12_adds_8 ?_
  refine lv_topi (fun z_34 ez_34 => ?_)
  obtain rfl : z_34 = nI (5 * mn) := ez_34.trans (pk_mul (5) (mn))
  refine lv_iadd hx hb dX12_adds_9 ?_
  refine lv_topi (fun z_35 ez_35 => ?_)
  obtain rfl : z_35 = nI (2 + (5 * mn)) := ez_35.trans (nI_add (2) (5 * mn))
  refine lv_istore (lv' := [(5, .int (nI (2 + (5 * mn)))), (0, .ref o), (1, .int (nI ga)), (2, .int (nI gb)), (3, .int am), (4, .int (nI kd))]) hx hb dX12_adds_10 hl (by decide) rfl (fun ls hl => ?_)
  refine lv_aload_n hx hb dX12_adds_12 rfl (lv_at hl 1 rfl) ?_
  refine pl_get (ci := 12) (v := .ref x_1) (C := RX12) (T := TX12) (N := 32) hx hb hT iX12 hown hK hW hT_o.1 hS_o rfl 0 (by decide) w1082 rfl dX12_adds_13 ?_
  refine lv_iload hx hb dX12_adds_16 (lv_at hl 0 rfl) ?_
  refine lv_iload_n hx hb dX12_adds_18 rfl (lv_at hl 2 rfl) ?_
  refine pl_iast hx hb hK hW hT_x_1.1 hS_x_1 (vp_in_nI (n := 2 + (5 * mn)) (N := 266) (by omega) (by omega)) dX12_adds_19 (fun H locs f_37 S_36 ef_f_37 e1 hW => ?_)
  have hok_ : okS (2 + (5 * mn)) (nI (ga)) := (okS_n (by omega) (by omega) (by omega))
  have hi_f_37 := okS_up (i := 2 + (5 * mn)) (by omega) hi_f_32 ef_f_37 hok_
  have hTy := hTy.u50 e1 hT_x_1 ⟨f_37, rfl, hi_f_37⟩
  have hS_o := un e1 hT_o hT_x_1 (by decide) hS_o
  have hFr := uf hFr e1 hT_x_1 (by decide) (by decide)
  have hS_x_1 := us e1
  have h0_ : f_37 0 = nI mn := up0 (i := 2 + (5 * mn)) (by omega) (by omega) h0_ ef_f_37
  refine lv_aload_n hx hb dX12_adds_20 rfl (lv_at hl 1 rfl) ?_
  refine pl_get (ci := 12) (v := .ref x_1) (C := RX12) (T := TX12) (N := 32) hx hb hT iX12 hown hK hW hT_o.1 hS_o rfl 0 (by decide) w1082 rfl dX12_adds_21 ?_
  refine lv_iload hx hb dX12_adds_24 (lv_at hl 0 rfl) ?_
  refine lv_iconst (v := 1) hx hb dX12_adds_26 (by decide) ?_
  refine lv_iadd hx hb dX12_adds_27 ?_
  refine lv_topi (fun z_38 ez_38 => ?_)
  obtain rfl : z_38 = nI ((2 + (5 * mn)) + 1) := ez_38.trans (nI_add (2 + (5 * mn)) (1))
  refine lv_iload_n hx hb dX12_adds_28 rfl (lv_at hl 3 rfl) ?_
  refine pl_iast hx hb hK hW hT_x_1.1 hS_x_1 (vp_in_nI (n := (2 + (5 * mn)) + 1) (N := 266) (by omega) (by omega)) dX12_adds_29 (fun H locs f_40 S_39 ef_f_40 e1 hW => ?_)
  have hok_ : okS ((2 + (5 * mn)) + 1) (nI (gb)) := (okS_n (by omega) (by omega) (by omega))
  have hi_f_40 := okS_up (i := (2 + (5 * mn)) + 1) (by omega) hi_f_37 ef_f_40 hok_
  have hTy := hTy.u50 e1 hT_x_1 ⟨f_40, rfl, hi_f_40⟩
  have hS_o := un e1 hT_o hT_x_1 (by decide) hS_o
  have hFr := uf hFr e1 hT_x_1 (by decide) (by decide)
  have hS_x_1 := us e1
  have h0_ : f_40 0 = nI mn := up0 (i := (2 + (5 * mn)) + 1) (by omega) (by omega) h0_ ef_f_40
  refine lv_aload_n hx hb dX12_adds_30 rfl (lv_at hl 1 rfl) ?_
  refine pl_get (ci := 12) (v := .ref x_1) (C := RX12) (T := TX12) (N := 32) hx hb hT iX12 hown hK hW hT_o.1 hS_o rfl 0 (by decide) w1082 rfl dX12_adds_31 ?_
  refine lv_iload hx hb dX12_adds_34 (lv_at hl 0 rfl) ?_
  refine lv_iconst (v := 2) hx hb dX12_adds_36 (by decide) ?_
  refine lv_iadd hx hb dX12_adds_37 ?_
  refine lv_topi (fun z_41 ez_41 => ?_)
  obtain rfl : z_41 = nI ((2 + (5 * mn)) + 2) := ez_41.trans (nI_add (2 + (5 * mn)) (2))
  refine lv_iload_n hx hb dX12_adds_38 rfl (lv_at hl 4 rfl) ?_
  refine pl_iast hx hb hK hW hT_x_1.1 hS_x_1 (vp_in_nI (n := (2 + (5 * mn)) + 2) (N := 266) (by omega) (by omega)) dX12_adds_39 (fun H locs f_43 S_42 ef_f_43 e1 hW => ?_)
  have hi_f_43 := okS_up (i := (2 + (5 * mn)) + 2) (by omega) hi_f_40 ef_f_43 (okS_any (by omega))
  have hTy := hTy.u50 e1 hT_x_1 ⟨f_43, rfl, hi_f_43⟩
  have hS_o := un e1 hT_o hT_x_1 (by decide) hS_o
  have hFr := uf hFr e1 hT_x_1 (by decide) (by decide)
  have hS_x_1 := us e1
  have h0_ : f_43 0 = nI mn := up0 (i := (2 + (5 * mn)) + 2) (by omega) (by omega) h0_ ef_f_43
  refine lv_aload_n hx hb dX12_adds_40 rfl (lv_at hl 1 rfl) ?_
  refine pl_get (ci := 12) (v := .ref x_1) (C := RX12) (T := TX12) (N := 32) hx hb hT iX12 hown hK hW hT_o.1 hS_o rfl 0 (by decide) w1082 rfl dX12_adds_41 ?_
  refine lv_iload hx hb dX12_adds_44 (lv_at hl 0 rfl) ?_
  refine lv_iconst (v := 3) hx hb dX12_adds_46 (by decide) ?_
  refine lv_iadd hx hb dX12_adds_47 ?_
  refine lv_topi (fun z_44 ez_44 => ?_)
  obtain rfl : z_44 = nI ((2 + (5 * mn)) + 3) := ez_44.trans (nI_add (2 + (5 * mn)) (3))
  refine lv_iload hx hb dX12_adds_48 (lv_at hl 5 rfl) ?_
  refine pl_iast hx hb hK hW hT_x_1.1 hS_x_1 (vp_in_nI (n := (2 + (5 * mn)) + 3) (N := 266) (by omega) (by omega)) dX12_adds_50 (fun H locs f_46 S_45 ef_f_46 e1 hW => ?_)
  have hok_ : okS ((2 + (5 * mn)) + 3) (nI (kd)) := (okS_n (by omega) (by omega) (by omega))
  have hi_f_46 := okS_up (i := (2 + (5 * mn)) + 3) (by omega) hi_f_43 ef_f_46 hok_
  have hTy := hTy.u50 e1 hT_x_1 ⟨f_46, rfl, hi_f_46⟩
  have hS_o := un e1 hT_o hT_x_1 (by decide) hS_o
  have hFr := uf hFr e1 hT_x_1 (by decide) (by decide)
  have hS_x_1 := us e1
  have h0_ : f_46 0 = nI mn := up0 (i := (2 + (5 * mn)) + 3) (by omega) (by omega) h0_ ef_f_46
  refine lv_aload_n hx hb dX12_adds_51 rfl (lv_at hl 1 rfl) ?_
  refine pl_get (ci := 12) (v := .ref x_1) (C := RX12) (T := TX12) (N := 32) hx hb hT iX12 hown hK hW hT_o.1 hS_o rfl 0 (by decide) w1082 rfl dX12_adds_52 ?_
  refine lv_iload hx hb dX12_adds_55 (lv_at hl 0 rfl) ?_
  refine lv_iconst (v := 4) hx hb dX12_adds_57 (by decide) ?_
  refine lv_iadd hx hb dX12_adds_58 ?_
  refine lv_topi (fun z_47 ez_47 => ?_)
  obtain rfl : z_47 = nI ((2 + (5 * mn)) + 4) := ez_47.trans (nI_add (2 + (5 * mn)) (4))
  refine lv_iconst (v := 0) hx hb dX12_adds_59 (by decide) ?_
  refine pl_iast hx hb hK hW hT_x_1.1 hS_x_1 (vp_in_nI (n := (2 + (5 * mn)) + 4) (N := 266) (by omega) (by omega)) dX12_adds_60 (fun H locs f_49 S_48 ef_f_49 e1 hW => ?_)
  have hok_ : okS ((2 + (5 * mn)) + 4) (nI (0)) := (okS_n (by omega) (by omega) (by omega))
  have hi_f_49 := okS_up (i := (2 + (5 * mn)) + 4) (by omega) hi_f_46 ef_f_49 hok_
  have hTy := hTy.u50 e1 hT_x_1 ⟨f_49, rfl, hi_f_49⟩
  have hS_o := un e1 hT_o hT_x_1 (by decide) hS_o
  have hFr := uf hFr e1 hT_x_1 (by decide) (by decide)
  have hS_x_1 := us e1
  have h0_ : f_49 0 = nI mn := up0 (i := (2 + (5 * mn)) + 4) (by omega) (by omega) h0_ ef_f_49
  refine lv_aload_n hx hb dX12_adds_61 rfl (lv_at hl 1 rfl) ?_
  refine pl_get (ci := 12) (v := .ref x_1) (C := RX12) (T := TX12) (N := 32) hx hb hT iX12 hown hK hW hT_o.1 hS_o rfl 0 (by decide) w1082 rfl dX12_adds_62 ?_
  refine lv_iconst (v := 0) hx hb dX12_adds_65 (by decide) ?_
  refine lv_dup2_11 hx hb dX12_adds_66 rfl rfl ?_
  refine pl_iald hx hb hK hW hT_x_1.1 hS_x_1 (vp_in_nI (n := 0) (N := 266) (by omega) (by omega)) dX12_adds_67 ?_
  refine lv_topi (fun y_50 ey_50 => ?_)
  obtain rfl : y_50 = nI mn := ey_50.trans h0_
  refine lv_iconst (v := 1) hx hb dX12_adds_68 (by decide) ?_
  refine lv_iadd hx hb dX12_adds_69 ?_
  refine lv_topi (fun z_51 ez_51 => ?_)
  obtain rfl : z_51 = nI (mn + 1) := ez_51.trans (nI_add (mn) (1))
  refine pl_iast hx hb hK hW hT_x_1.1 hS_x_1 (vp_in_nI (n := 0) (N := 266) (by omega) (by omega)) dX12_adds_70 (fun H locs f_53 S_52 ef_f_53 e1 hW => ?_)
  have hok_ : okS 0 (nI (mn + 1)) := (okS_n (by omega) (by omega) (by omega))
  have hi_f_53 := okS_up (i := 0) (by omega) hi_f_49 ef_f_53 hok_
  have hTy := hTy.u50 e1 hT_x_1 ⟨f_53, rfl, hi_f_53⟩
  have hS_o := un e1 hT_o hT_x_1 (by decide) hS_o
  have hFr := uf hFr e1 hT_x_1 (by decide) (by decide)
  have hS_x_1 := us e1
  have h0_ : f_53 0 = nI (mn + 1) := up00 ef_f_53
  exact W.vret hx hb hr (fun t ht h9 => ⟨⟨S_52, rfl, ⟨hTy, hFr, ⟨by rw [fld_i hS_o rfl hS_x_1]; exact SM_adds ef_f_37 ef_f_40 ef_f_43 ef_f_46 ef_f_49 h0_ (fun j hj => by rw [ef_f_53]; exact pk_un (fun q => by rw [q] at hj; exact absurd hj (by decide))) (by omega) (by omega) (by omega) (by omega) (by omega) hsm_ (by omega), by rw [fld_i hS_o rfl hS_x_1]; exact dg_adds ef_f_37 ef_f_40 ef_f_43 ef_f_46 ef_f_49 h0_ (fun j hj => by rw [ef_f_53]; exact pk_un (fun q => by rw [q] at hj; exact absurd hj (by decide))) (by omega) (by omega) (by omega) (by omega) (by omega) hdg_ h0g_ (by omega) (by omega) (by omega) hab⟩⟩, by rw [ht]; exact hW.1, va_K.moved h9.alike hK, hW.2.1⟩, hW.2.2.F ht⟩) hW.2.2.2.2 dX12_adds_71

set_option maxHeartbeats 4000000 in
set_option maxRecDepth 100000 in
theorem f_two (l : Launch) (dC : Nat → ClassId) (dI : Nat → Nat → Nat) (cy : Nat → ClassId) (L : List Nat) (kap : Nat → Nat) (pr : Pr) (ad : (Nat → Nat) × (Nat → Nat)) (S : Nat → va_E) (sz : Nat) (o : Nat) (wz : Nat) (hTy : Ty cy L kap pr S) (hT_o : TK L kap o 12) (hb_wz : wz < 6) (g : Nat → Int32) (nm : Nat → Int64) (sp : Nat) (sn : Nat) (wr : Int32) (wa : Int32) (sen : Int32) (ra : Int32) (pa : Nat) (ki : Nat) (rs : Nat) (hM : MF S o g nm sp sn wr wa sen ra pa ki rs) (hsp : sp ≤ sn) (hg : BR g) (df : Nat → Nat × Nat) (hN0 : NMR g df nm 0 pa) (hN8 : NMR g df nm 8 ki) (mn : Nat) (kf : Nat → Bool) (hsm : SM (fld S o 0) mn kf) (hdg : dg (fld S o 0)) (h40 : wz = 2 → mn < 40) : Met l yX12_twoRead (wT yX12_twoRead cX12_twoRead 6 none) ({ frames := 8, cells := 0, slots := 0, locals := 178 }) (pcS dC dI [.ref o, .int (nI wz)] sz L S (cyT cy) NLs ad) (va_Qv (fun S' => Ty cy L kap pr S' ∧ Fr kap [12, 50, 112] S S' ∧ (∃ sp' wr' wa' ra', MF S' o g nm sp' sn wr' wa' sen ra' pa ki rs ∧ sp' ≤ sn ∧ ERR wr wa (E2 g sn df pa ki wz sp).1 (E2 g sn df pa ki wz sp).2 wr' wa' ∧ (wr = 0 → (E2 g sn df pa ki wz sp).1 = 0 → sp' = P2 g sn wz sp ∧ SM (fld S' o 0) (if wz = 2 then mn + 1 else mn) (if wz = 2 then ub kf mn false else kf)) ∧ dg (fld S' o 0))) (fun S' t => pB dC dI (AL L sz) (va_pl L S') (cyT cy) t) (AL L sz)) 0 0 (AL L sz) := by
  refine Met.ofW (cc := cX12_twoRead) (maxL := 6) (ret := none) (by decide) rfl ?_
  intro p e s m args below meth c s₁ B hml hv
  obtain ⟨rfl, hsz, hP, hK, hD0, hN, hSTR⟩ := hv
  have hx := B.exec
  have hb := B.bytes
  have hr := B.returns
  have hT : ∀ wd ∈ TB, wd.before [.ref o, .int (nI wz)].toArray s = true := fun wd h => atoms_spec (ws := wT yX12_twoRead cX12_twoRead 6 none) B.pre wd (List.mem_cons_of_mem _ h)
  have hown : s.vm.findClass RX12 = some m.cls := findClass_of_methodNamed B.named
  have hlocks := B.notSynchronized
  subst hsz
  have hW : PW dC dI L (AL L s.heap.size) s.heap S s.heap [] := ⟨hP, pl_self hD0, va_S.rf⟩
  have hA0 : ∀ q, q ∈ L → AL L s.heap.size q := fun _ h => Or.inl h
  have hA : ∀ q, s.heap.size ≤ q → AL L s.heap.size q := fun _ h => Or.inr h
  have hFr : Fr kap [12, 50, 112] S S := Fr.rf
  have hl := lv_entry ([.ref o, .int (nI wz)]) (n := 6) (Nat.le_of_ble_eq_true rfl)
  rw [lg_entry_eq]
  generalize (lg_sl ([.ref o, .int (nI wz)]) ++ List.replicate (6 - (lg_sl ([.ref o, .int (nI wz)])).length) Slot.unset).toArray = ls at hl ⊢
  have hl : lv_has ls 6 [(0, .ref o), (1, .int (nI wz))] := hl
  obtain ⟨x_1, x_2, x_3, x_4, x_5, x_6, x_7, x_8, x_9, x_10, x_11, x_12, x_13, x_14, x_15, x_16, x_17, x_18, x_19, x_20, x_21, x_22, x_23, x_24, x_25, x_26, x_27, x_28, x_29, x_30, x_31, hS_o, hT_x_1, hT_x_2, hT_x_3, hT_x_4, hT_x_5, hb_x_6, hb_x_7, hb_x_8, hT_x_10, hb_q2, hb_x_11, hb_x_12, hT_x_17, hT_x_18, hb_x_19, hT_x_20, hT_x_21, hT_x_22, hT_x_23, hT_x_24, hT_x_25, hT_x_26, hT_x_27, hT_x_28, hT_x_29, hT_x_30, hb_x_31⟩ := hTy.k12 hT_o
  have hb_q2 : pr.2 ≤ 900 := hb_q2
  have hS_o : S o = .inr (12, [.ref x_1, .ref x_2, .ref x_3, .ref x_4, .ref x_5, .int (nI x_6), .int (nI x_7), .int (nI x_8), .int x_9, .ref x_10, .int (nI (pr.2)), .int (nI x_11), .int (nI x_12), .int x_13, .int x_14, .int x_15, .int x_16, .ref x_17, .ref x_18, .int (nI x_19), .ref x_20, .ref x_21, .ref x_22, .ref x_23, .ref x_24, .ref x_25, .ref x_26, .ref x_27, .ref x_28, .ref x_29, .ref x_30, .int (nI x_31)]) := hS_o
  obtain ⟨hMK_, h14_, h15_, h16_, h9_, h3_⟩ := hM
  obtain ⟨e12_, e11_, e13_, e5_, e6_, e0_⟩ := MKe hMK_ hS_o rfl rfl rfl rfl rfl rfl (by omega) (by omega) (by omega) (by omega)
  subst e12_ e11_ e13_ e5_ e6_ e0_
  have e14_ := h14_.symm.trans (inf_i hS_o rfl)
  subst e14_
  have e15_ := h15_.symm.trans (inf_i hS_o rfl)
  subst e15_
  have e16_ := h16_.symm.trans (inf_i hS_o rfl)
  subst e16_
  obtain ⟨f_32, hS_x_10⟩ := hTy.k55 hT_x_10
  have e9_ := h9_.symm.trans (fld_i hS_o rfl hS_x_10)
  subst e9_
  obtain ⟨f_33, hS_x_4⟩ := hTy.k53 hT_x_4
  have e3_ := h3_.symm.trans (lfd_i hS_o rfl hS_x_4)
  subst e3_
  obtain ⟨f_34, hS_rs, hi_f_34⟩ := hTy.k50 hT_x_1
  have hsm_ := hsm
  rw [fld_i hS_o rfl hS_rs] at hsm_
  have hdg_ : dg f_34 := by have q := hdg; rw [fld_i hS_o rfl hS_rs] at q; exact q
  refine lv_aload_n hx hb dX12_twoRead_0 rfl (lv_at hl 0 rfl) ?_
  refine pl_calli (va_runV (As := []) (rest := []) ⟨hx, hb, hml, hown, hT⟩ (f_party l dC dI cy L kap pr ad S s.heap.size o hTy hT_o g nm sp sn wr wa sen ra pa ki rs ⟨MKi (sp := sp) (sn := sn) (pa := pa) (ki := ki) hS_o rfl rfl rfl rfl rfl rfl (by omega) (by omega) (by omega) (by omega), inf_i hS_o rfl, inf_i hS_o rfl, inf_i hS_o rfl, fld_i hS_o rfl hS_x_10, lfd_i hS_o rfl hS_x_4⟩ (by omega) hg df hN0 hN8) (cwV 0 hT (gV w1255 w1257 ws68 w14 w1258) rfl rfl rfl (by decide +kernel) ⟨(Nat.le_of_ble_eq_true rfl), (Nat.le_of_ble_eq_true rfl)⟩) ⟨pcS.blind, pl_recv hK hW hT_o.1 hS_o rfl, pcS.pre hW.1 hK hW.2.1 hN hSTR hW.2.2⟩ rfl rfl hl.1 rfl (lv_room (Nat.le_of_ble_eq_true rfl)) dX12_twoRead_1 ⟨(Nat.le_of_ble_eq_true rfl), (Nat.le_of_ble_eq_true rfl)⟩) hW hA0 hA (fun r_36 S_35 H locs hrel hW => ?_)
  obtain ⟨hTy, hF1, hx1⟩ := hrel
  have hFr := hFr.tr hF1 (by decide)
  have hS_x_10 := hF1.at hT_x_10 (by decide) hS_x_10
  have hS_x_4 := hF1.at hT_x_4 (by decide) hS_x_4
  have hS_rs := hF1.at hT_x_1 (by decide) hS_rs
  obtain ⟨sp37, wr37, wa37, ra37, hM37, hsb37, hER37, hOK37, k_38, hb_k_38, rfl⟩ := hx1
  obtain ⟨x_39, x_40, x_41, x_42, x_43, x_44, x_45, x_46, x_47, x_48, x_49, x_50, x_51, x_52, x_53, x_54, x_55, x_56, x_57, x_58, x_59, x_60, x_61, x_62, x_63, x_64, x_65, x_66, x_67, x_68, x_69, hS_o, hT_x_39, hT_x_40, hT_x_41, hT_x_42, hT_x_43, hb_x_44, hb_x_45, hb_x_46, hT_x_48, hb_q2, hb_x_49, hb_x_50, hT_x_55, hT_x_56, hb_x_57, hT_x_58, hT_x_59, hT_x_60, hT_x_61, hT_x_62, hT_x_63, hT_x_64, hT_x_65, hT_x_66, hT_x_67, hT_x_68, hb_x_69⟩ := hTy.k12 hT_o
  have hb_q2 : pr.2 ≤ 900 := hb_q2
  have hS_o : S_35 o = .inr (12, [.ref x_39, .ref x_40, .ref x_41, .ref x_42, .ref x_43, .int (nI x_44), .int (nI x_45), .int (nI x_46), .int x_47, .ref x_48, .int (nI (pr.2)), .int (nI x_49), .int (nI x_50), .int x_51, .int x_52, .int x_53, .int x_54, .ref x_55, .ref x_56, .int (nI x_57), .ref x_58, .ref x_59, .ref x_60, .ref x_61, .ref x_62, .ref x_63, .ref x_64, .ref x_65, .ref x_66, .ref x_67, .ref x_68, .int (nI x_69)]) := hS_o
  obtain ⟨hMK_, h14_, h15_, h16_, h9_, h3_⟩ := hM37
  obtain ⟨e12_, e11_, e13_, e5_, e6_, e0_⟩ := MKe hMK_ hS_o rfl rfl rfl rfl rfl rfl (by omega) (by omega) (by omega) (by omega)
  subst e12_ e11_ e13_ e5_ e6_ e0_
  have e14_ := h14_.symm.trans (inf_i hS_o rfl)
  subst e14_
  have e15_ := h15_.symm.trans (inf_i hS_o rfl)
  subst e15_
  have e16_ := h16_.symm.trans (inf_i hS_o rfl)
  subst e16_
  obtain ⟨f_70, hS_x_48⟩ := hTy.k55 hT_x_48
  have e9_ := h9_.symm.trans (fld_i hS_o rfl hS_x_48)
  subst e9_
  obtain ⟨f_71, hS_x_42⟩ := hTy.k53 hT_x_42
  have e3_ := h3_.symm.trans (lfd_i hS_o rfl hS_x_42)
  subst e3_
  refine lv_istore_n (lv' := [(2, .int (nI k_38)), (0, .ref o), (1, .int (nI wz))]) hx hb dX12_twoRead_4 rfl hl (by decide) rfl (fun ls hl => ?_)
  refine lv_aload_n hx hb dX12_twoRead_5 rfl (lv_at hl 1 rfl) ?_
  refine lv_iload_n hx hb dX12_twoRead_6 rfl (lv_at hl 0 rfl) ?_
  refine pl_calli (va_runV (As := [.int (nI k_38)]) (rest := []) ⟨hx, hb, hml, hown, hT⟩ (f_other l dC dI cy L kap pr ad S_35 H.size o (nI k_38) hTy hT_o g nm sp37 sn wr37 wa37 sen ra37 pa ki rs ⟨MKi (sp := sp37) (sn := sn) (pa := pa) (ki := ki) hS_o rfl rfl rfl rfl rfl rfl (by omega) (by omega) (by omega) (by omega), inf_i hS_o rfl, inf_i hS_o rfl, inf_i hS_o rfl, fld_i hS_o rfl hS_x_48, lfd_i hS_o rfl hS_x_42⟩ (by omega) hg df hN0 hN8) (cwV 1 hT (gV w1259 w1261 ws69 w14 w1262) rfl rfl rfl (by decide +kernel) ⟨(Nat.le_of_ble_eq_true rfl), (Nat.le_of_ble_eq_true rfl)⟩) ⟨pcS.blind, pl_recv hK hW hT_o.1 hS_o rfl, pcS.pre hW.1 hK hW.2.1 hN hSTR hW.2.2⟩ rfl rfl hl.1 rfl (lv_room (Nat.le_of_ble_eq_true rfl)) dX12_twoRead_7 ⟨(Nat.le_of_ble_eq_true rfl), (Nat.le_of_ble_eq_true rfl)⟩) hW hA0 hA (fun r_73 S_72 H locs hrel hW => ?_)
  obtain ⟨hTy, hF1, hx1⟩ := hrel
  have hFr := hFr.tr hF1 (by decide)
  have hS_x_10 := hF1.at hT_x_10 (by decide) hS_x_10
  have hS_x_4 := hF1.at hT_x_4 (by decide) hS_x_4
  have hS_rs := hF1.at hT_x_1 (by decide) hS_rs
  have hS_x_48 := hF1.at hT_x_48 (by decide) hS_x_48
  have hS_x_42 := hF1.at hT_x_42 (by decide) hS_x_42
  obtain ⟨sp74, wr74, wa74, ra74, hM74, hsb74, hER74, hOK74, k_75, hb_k_75, rfl⟩ := hx1
  obtain ⟨x_76, x_77, x_78, x_79, x_80, x_81, x_82, x_83, x_84, x_85, x_86, x_87, x_88, x_89, x_90, x_91, x_92, x_93, x_94, x_95, x_96, x_97, x_98, x_99, x_100, x_101, x_102, x_103, x_104, x_105, x_106, hS_o, hT_x_76, hT_x_77, hT_x_78, hT_x_79, hT_x_80, hb_x_81, hb_x_82, hb_x_83, hT_x_85, hb_q2, hb_x_86, hb_x_87, hT_x_92, hT_x_93, hb_x_94, hT_x_95, hT_x_96, hT_x_97, hT_x_98, hT_x_99, hT_x_100, hT_x_101, hT_x_102, hT_x_103, hT_x_104, hT_x_105, hb_x_106⟩ := hTy.k12 hT_o
  have hb_q2 : pr.2 ≤ 900 := hb_q2
  have hS_o : S_72 o = .inr (12, [.ref x_76, .ref x_77, .ref x_78, .ref x_79, .ref x_80, .int (nI x_81), .int (nI x_82), .int (nI x_83), .int x_84, .ref x_85, .int (nI (pr.2)), .int (nI x_86), .int (nI x_87), .int x_88, .int x_89, .int x_90, .int x_91, .ref x_92, .ref x_93, .int (nI x_94), .ref x_95, .ref x_96, .ref x_97, .ref x_98, .ref x_99, .ref x_100, .ref x_101, .ref x_102, .ref x_103, .ref x_104, .ref x_105, .int (nI x_106)]) := hS_o
  obtain ⟨hMK_, h14_, h15_, h16_, h9_, h3_⟩ := hM74
  obtain ⟨e12_, e11_, e13_, e5_, e6_, e0_⟩ := MKe hMK_ hS_o rfl rfl rfl rfl rfl rfl (by omega) (by omega) (by omega) (by omega)
  subst e12_ e11_ e13_ e5_ e6_ e0_
  have e14_ := h14_.symm.trans (inf_i hS_o rfl)
  subst e14_
  have e15_ := h15_.symm.trans (inf_i hS_o rfl)
  subst e15_
  have e16_ := h16_.symm.trans (inf_i hS_o rfl)
  subst e16_
  obtain ⟨f_107, hS_x_85⟩ := hTy.k55 hT_x_85
  have e9_ := h9_.symm.trans (fld_i hS_o rfl hS_x_85)
  subst e9_
  obtain ⟨f_108, hS_x_79⟩ := hTy.k53 hT_x_79
  have e3_ := h3_.symm.trans (lfd_i hS_o rfl hS_x_79)
  subst e3_
  refine lv_istore_n (lv' := [(3, .int (nI k_75)), (2, .int (nI k_38)), (0, .ref o), (1, .int (nI wz))]) hx hb dX12_twoRead_10 rfl hl (by decide) rfl (fun ls hl => ?_)
  refine lv_aload_n hx hb dX12_twoRead_11 rfl (lv_at hl 2 rfl) ?_
  refine lv_iload_n hx hb dX12_twoRead_12 rfl (lv_at hl 3 rfl) ?_
  refine lv_iconst (v := 2) hx hb dX12_twoRead_13 (by decide) ?_
  refine lv_icmp_ne (tgt := 21) hx hb dX12_twoRead_14 (by decide) (fun c_14 => ?_) (fun c_14 => ?_)
  · have c_14 : ¬ (wz = 2) := fun hh9 => c_14 ((nI_eq (a := wz) (b := 2) (by omega) (by omega)).mpr hh9)
    refine lv_iconst (v := 0) hx hb dX12_twoRead_21 (by decide) ?_
    refine lv_iload_n hx hb dX12_twoRead_22 rfl (lv_at hl 3 rfl) ?_
    refine lv_iconst (v := 2) hx hb dX12_twoRead_23 (by decide) ?_
    refine lv_icmp_ne (tgt := 32) hx hb dX12_twoRead_24 (by decide) (fun _ => ?_) (fun h => absurd h (fun z => c_14 ((nI_eq (a := wz) (b := 2) (by omega) (by omega)).mp z)))
    refine lv_ldc (v := 99999999) hx hb hown (hT _ w1081) dX12_twoRead_32 ?_
    refine pl_calli (va_runV (As := [.int 0, .int 99999999]) (rest := []) ⟨hx, hb, hml, hown, hT⟩ (f_numeral l dC dI cy L kap pr S_72 H.size o 0 99999999 hTy hT_o g nm sp74 sn wr74 wa74 sen ra74 pa ki rs ⟨MKi (sp := sp74) (sn := sn) (pa := pa) (ki := ki) hS_o rfl rfl rfl rfl rfl rfl (by omega) (by omega) (by omega) (by omega), inf_i hS_o rfl, inf_i hS_o rfl, inf_i hS_o rfl, fld_i hS_o rfl hS_x_85, lfd_i hS_o rfl hS_x_79⟩ (by omega) hg) (cwV 2 hT (gV w1238 w1240 ws65 w14 w1241) rfl rfl rfl (by decide +kernel) ⟨(Nat.le_of_ble_eq_true rfl), (Nat.le_of_ble_eq_true rfl)⟩) ⟨pcN.blind, pl_recv hK hW hT_o.1 hS_o rfl, pcN.pre hW.1 hK hW.2.1 hN (fun q h => absurd h List.not_mem_nil)⟩ rfl rfl hl.1 rfl (lv_room (Nat.le_of_ble_eq_true rfl)) dX12_twoRead_34 ⟨(Nat.le_of_ble_eq_true rfl), (Nat.le_of_ble_eq_true rfl)⟩) hW hA0 hA (fun r_110 S_109 H locs hrel hW => ?_)
    obtain ⟨hTy, hF1, hx1⟩ := hrel
    have hFr := hFr.tr hF1 (by decide)
    have hS_x_10 := hF1.at hT_x_10 (by decide) hS_x_10
    have hS_x_4 := hF1.at hT_x_4 (by decide) hS_x_4
    have hS_rs := hF1.at hT_x_1 (by decide) hS_rs
    have hS_x_48 := hF1.at hT_x_48 (by decide) hS_x_48
    have hS_x_42 := hF1.at hT_x_42 (by decide) hS_x_42
    have hS_x_85 := hF1.at hT_x_85 (by decide) hS_x_85
    have hS_x_79 := hF1.at hT_x_79 (by decide) hS_x_79
    obtain ⟨sp111, wr111, wa111, ra111, hM111, hsb111, hER111, hOK111⟩ := hx1
    obtain ⟨x_112, x_113, x_114, x_115, x_116, x_117, x_118, x_119, x_120, x_121, x_122, x_123, x_124, x_125, x_126, x_127, x_128, x_129, x_130, x_131, x_132, x_133, x_134, x_135, x_136, x_137, x_138, x_139, x_140, x_141, x_142, hS_o, hT_x_112, hT_x_113, hT_x_114, hT_x_115, hT_x_116, hb_x_117, hb_x_118, hb_x_119, hT_x_121, hb_q2, hb_x_122, hb_x_123, hT_x_128, hT_x_129, hb_x_130, hT_x_131, hT_x_132, hT_x_133, hT_x_134, hT_x_135, hT_x_136, hT_x_137, hT_x_138, hT_x_139, hT_x_140, hT_x_141, hb_x_142⟩ := hTy.k12 hT_o
    have hb_q2 : pr.2 ≤ 900 := hb_q2
    have hS_o : S_109 o = .inr (12, [.ref x_112, .ref x_113, .ref x_114, .ref x_115, .ref x_116, .int (nI x_117), .int (nI x_118), .int (nI x_119), .int x_120, .ref x_121, .int (nI (pr.2)), .int (nI x_122), .int (nI x_123), .int x_124, .int x_125, .int x_126, .int x_127, .ref x_128, .ref x_129, .int (nI x_130), .ref x_131, .ref x_132, .ref x_133, .ref x_134, .ref x_135, .ref x_136, .ref x_137, .ref x_138, .ref x_139, .ref x_140, .ref x_141, .int (nI x_142)]) := hS_o
    obtain ⟨hMK_, h14_, h15_, h16_, h9_, h3_⟩ := hM111
    obtain ⟨e12_, e11_, e13_, e5_, e6_, e0_⟩ := MKe hMK_ hS_o rfl rfl rfl rfl rfl rfl (by omega) (by omega) (by omega) (by omega)
    subst e12_ e11_ e13_ e5_ e6_ e0_
    have e14_ := h14_.symm.trans (inf_i hS_o rfl)
    subst e14_
    have e15_ := h15_.symm.trans (inf_i hS_o rfl)
    subst e15_
    have e16_ := h16_.symm.trans (inf_i hS_o rfl)
    subst e16_
    obtain ⟨f_143, hS_x_121⟩ := hTy.k55 hT_x_121
    have e9_ := h9_.symm.trans (fld_i hS_o rfl hS_x_121)
    subst e9_
    obtain ⟨f_144, hS_x_115⟩ := hTy.k53 hT_x_115
    have e3_ := h3_.symm.trans (lfd_i hS_o rfl hS_x_115)
    subst e3_
    refine lv_istore (lv' := [(4, .int r_110), (3, .int (nI k_75)), (2, .int (nI k_38)), (0, .ref o), (1, .int (nI wz))]) hx hb dX12_twoRead_37 hl (by decide) rfl (fun ls hl => ?_)
    refine lv_iload_n hx hb dX12_twoRead_39 rfl (lv_at hl 4 rfl) ?_
    refine lv_iconst (v := 2) hx hb dX12_twoRead_40 (by decide) ?_
    refine lv_icmp_ne (tgt := 51) hx hb dX12_twoRead_41 (by decide) (fun _ => ?_) (fun h => absurd h (fun z => c_14 ((nI_eq (a := wz) (b := 2) (by omega) (by omega)).mp z)))
    refine lv_iconst (v := 0) hx hb dX12_twoRead_51 (by decide) ?_
    refine lv_istore (lv' := [(5, .int 0), (4, .int r_110), (3, .int (nI k_75)), (2, .int (nI k_38)), (0, .ref o), (1, .int (nI wz))]) hx hb dX12_twoRead_52 hl (by decide) rfl (fun ls hl => ?_)
    have hE2 : E2 g sn df pa ki wz sp = fe (ptc g sn df 0 pa sp, SK g sn sp) (fe (otc g sn df pa (tke g sn sp) (nI (FN g df 0 pa (SK g sn sp) (tke g sn sp - SK g sn sp))), SK g sn (tke g sn sp)) (fe (nbc g sn (tke g sn (tke g sn sp)) 0 99999999, SK g sn (tke g sn (tke g sn sp))) (0, 0))) := by unfold E2; rw [if_neg c_14, if_neg c_14, if_neg c_14]
    have hcmp := (two_c hER37 ptc_b hER74 otc_b hER111 nbc_b (ERR_0 (q := 0)) (fun a b => by obtain ⟨z1, z2, z3⟩ := hOK37 a b; rw [z1, z3]) (fun a b c => by have z := hOK74 (ERR_z hER37 a b).1 (by first | exact c | exact c); rw [z.1, (hOK37 a b).1]) (fun _ _ _ _ => rfl))
    rw [← hE2] at hcmp
    refine lv_aload_n hx hb dX12_twoRead_54 rfl (lv_at hl 4 rfl) ?_
    refine pl_get (ci := 12) (v := .int wr111) (C := RX12) (T := TX12) (N := 32) hx hb hT iX12 hown hK hW hT_o.1 hS_o rfl 13 (by decide) w1095 rfl dX12_twoRead_55 ?_
    refine lv_if_eq (tgt := 62) hx hb dX12_twoRead_58 (by decide) (fun c_58 => ?_) (fun c_58 => ?_)
    · refine lv_iload_n hx hb dX12_twoRead_62 rfl (lv_at hl 5 rfl) ?_
      refine lv_iconst (v := 2) hx hb dX12_twoRead_63 (by decide) ?_
      refine lv_icmp_ne (tgt := 80) hx hb dX12_twoRead_64 (by decide) (fun _ => ?_) (fun h => absurd h (fun z => c_14 ((nI_eq (a := wz) (b := 2) (by omega) (by omega)).mp z)))
      refine lv_aload_n hx hb dX12_twoRead_80 rfl (lv_at hl 4 rfl) ?_
      refine pl_get (ci := 12) (v := .ref rs) (C := RX12) (T := TX12) (N := 32) hx hb hT iX12 hown hK hW hT_o.1 hS_o rfl 0 (by decide) w1082 rfl dX12_twoRead_81 ?_
      refine lv_sipush (v := 202) hx hb dX12_twoRead_84 (by decide) ?_
      refine lv_bipush (v := 8) hx hb dX12_twoRead_87 (by decide) ?_
      refine lv_iload_n hx hb dX12_twoRead_89 rfl (lv_at hl 3 rfl) ?_
      refine lv_imul hx hb dX12_twoRead_90 ?_
      refine lv_topi (fun z_145 ez_145 => ?_)
      obtain rfl : z_145 = nI (8 * k_38) := ez_145.trans (pk_mul (8) (k_38))
      refine lv_iadd hx hb dX12_twoRead_91 ?_
      refine lv_topi (fun z_146 ez_146 => ?_)
      obtain rfl : z_146 = nI (202 + (8 * k_38)) := ez_146.trans (nI_add (202) (8 * k_38))
      refine lv_iload_n hx hb dX12_twoRead_92 rfl (lv_at hl 2 rfl) ?_
      refine lv_iadd hx hb dX12_twoRead_93 ?_
      refine lv_topi (fun z_147 ez_147 => ?_)
      obtain rfl : z_147 = nI ((202 + (8 * k_38)) + k_75) := ez_147.trans (nI_add (202 + (8 * k_38)) (k_75))
      refine lv_iload hx hb dX12_twoRead_94 (lv_at hl 1 rfl) ?_
      refine pl_iast hx hb hK hW hT_x_1.1 hS_rs (vp_in_nI (n := (202 + (8 * k_38)) + k_75) (N := 266) (by omega) (by omega)) dX12_twoRead_96 (fun H locs f_149 S_148 ef_f_149 e1 hW => ?_)
      have hi_f_149 := okS_up (i := (202 + (8 * k_38)) + k_75) (by omega) hi_f_34 ef_f_149 (okS_any (by omega))
      have hTy := hTy.u50 e1 hT_x_1 ⟨f_149, rfl, hi_f_149⟩
      have hS_x_10 := un e1 hT_x_10 hT_x_1 (by decide) hS_x_10
      have hS_x_4 := un e1 hT_x_4 hT_x_1 (by decide) hS_x_4
      have hS_x_48 := un e1 hT_x_48 hT_x_1 (by decide) hS_x_48
      have hS_x_42 := un e1 hT_x_42 hT_x_1 (by decide) hS_x_42
      have hS_x_85 := un e1 hT_x_85 hT_x_1 (by decide) hS_x_85
      have hS_x_79 := un e1 hT_x_79 hT_x_1 (by decide) hS_x_79
      have hS_o := un e1 hT_o hT_x_1 (by decide) hS_o
      have hS_x_121 := un e1 hT_x_121 hT_x_1 (by decide) hS_x_121
      have hS_x_115 := un e1 hT_x_115 hT_x_1 (by decide) hS_x_115
      have hFr := uf hFr e1 hT_x_1 (by decide) (by decide)
      have hS_rs := us e1
      have hdg_ := dg_up (i := (202 + (8 * k_38)) + k_75) hdg_ ef_f_149 (by omega) (by omega)
      have hsm_ := SM_up (i := (202 + (8 * k_38)) + k_75) hsm_ ef_f_149 (by omega) (by omega)
      exact W.vret hx hb hr (fun t ht h9 => ⟨⟨S_148, rfl, ⟨hTy, hFr, ⟨sp111, _, _, _, ⟨MKi (sp := sp111) (sn := sn) (pa := pa) (ki := ki) hS_o rfl rfl rfl rfl rfl rfl (by omega) (by omega) (by omega) (by omega), inf_i hS_o rfl, inf_i hS_o rfl, inf_i hS_o rfl, fld_i hS_o rfl hS_x_121, lfd_i hS_o rfl hS_x_115⟩, by omega, hcmp.1, fun a b => ⟨by have q := hcmp.2 a b; have z1 := hOK37 a q.1; have w1 := (ERR_z hER37 a q.1).1; have z2 := hOK74 w1 q.2.1; have w2 := (ERR_z hER74 w1 q.2.1).1; have z3 := hOK111 w2 q.2.2.1; show _ = P2 g sn wz sp; unfold P2; rw [if_neg c_14, z3.1, z2.1, z1.1], by rw [if_neg c_14, if_neg c_14]; exact (by rw [fld_i hS_o rfl hS_rs]; exact hsm_)⟩, (by rw [fld_i hS_o rfl hS_rs]; exact hdg_)⟩⟩, by rw [ht]; exact hW.1, va_K.moved h9.alike hK, hW.2.1⟩, hW.2.2.F ht⟩) hW.2.2.2.2 dX12_twoRead_97
    · exact W.vret hx hb hr (fun t ht h9 => ⟨⟨S_109, rfl, ⟨hTy, hFr, ⟨sp111, _, _, _, ⟨MKi (sp := sp111) (sn := sn) (pa := pa) (ki := ki) hS_o rfl rfl rfl rfl rfl rfl (by omega) (by omega) (by omega) (by omega), inf_i hS_o rfl, inf_i hS_o rfl, inf_i hS_o rfl, fld_i hS_o rfl hS_x_121, lfd_i hS_o rfl hS_x_115⟩, by omega, hcmp.1, fun a b => absurd (ERR_z hcmp.1 a b).1 c_58, (by rw [fld_i hS_o rfl hS_rs]; exact hdg_)⟩⟩, by rw [ht]; exact hW.1, va_K.moved h9.alike hK, hW.2.1⟩, hW.2.2.F ht⟩) hW.2.2.2.2 dX12_twoRead_61
  · have c_14 : wz = 2 := (nI_eq (a := wz) (b := 2) (by omega) (by omega)).mp c_14
    refine lv_iconst (v := 1) hx hb dX12_twoRead_17 (by decide) ?_
    refine lv_goto (tgt := 22) hx hb dX12_twoRead_18 (by decide) ?_
    refine lv_iload_n hx hb dX12_twoRead_22 rfl (lv_at hl 3 rfl) ?_
    refine lv_iconst (v := 2) hx hb dX12_twoRead_23 (by decide) ?_
    refine lv_icmp_ne (tgt := 32) hx hb dX12_twoRead_24 (by decide) (fun h => absurd ((nI_eq (a := wz) (b := 2) (by omega) (by omega)).mpr c_14) h) (fun _ => ?_)
    refine lv_ldc (v := 999999) hx hb hown (hT _ w1263) dX12_twoRead_27 ?_
    refine lv_goto (tgt := 34) hx hb dX12_twoRead_29 (by decide) ?_
    refine pl_calli (va_runV (As := [.int 1, .int 999999]) (rest := []) ⟨hx, hb, hml, hown, hT⟩ (f_numeral l dC dI cy L kap pr S_72 H.size o 1 999999 hTy hT_o g nm sp74 sn wr74 wa74 sen ra74 pa ki rs ⟨MKi (sp := sp74) (sn := sn) (pa := pa) (ki := ki) hS_o rfl rfl rfl rfl rfl rfl (by omega) (by omega) (by omega) (by omega), inf_i hS_o rfl, inf_i hS_o rfl, inf_i hS_o rfl, fld_i hS_o rfl hS_x_85, lfd_i hS_o rfl hS_x_79⟩ (by omega) hg) (cwV 2 hT (gV w1238 w1240 ws65 w14 w1241) rfl rfl rfl (by decide +kernel) ⟨(Nat.le_of_ble_eq_true rfl), (Nat.le_of_ble_eq_true rfl)⟩) ⟨pcN.blind, pl_recv hK hW hT_o.1 hS_o rfl, pcN.pre hW.1 hK hW.2.1 hN (fun q h => absurd h List.not_mem_nil)⟩ rfl rfl hl.1 rfl (lv_room (Nat.le_of_ble_eq_true rfl)) dX12_twoRead_34 ⟨(Nat.le_of_ble_eq_true rfl), (Nat.le_of_ble_eq_true rfl)⟩) hW hA0 hA (fun r_151 S_150 H locs hrel hW => ?_)
    obtain ⟨hTy, hF1, hx1⟩ := hrel
    have hFr := hFr.tr hF1 (by decide)
    have hS_x_10 := hF1.at hT_x_10 (by decide) hS_x_10
    have hS_x_4 := hF1.at hT_x_4 (by decide) hS_x_4
    have hS_rs := hF1.at hT_x_1 (by decide) hS_rs
    have hS_x_48 := hF1.at hT_x_48 (by decide) hS_x_48
    have hS_x_42 := hF1.at hT_x_42 (by decide) hS_x_42
    have hS_x_85 := hF1.at hT_x_85 (by decide) hS_x_85
    have hS_x_79 := hF1.at hT_x_79 (by decide) hS_x_79
    obtain ⟨sp152, wr152, wa152, ra152, hM152, hsb152, hER152, hOK152⟩ := hx1
    obtain ⟨x_153, x_154, x_155, x_156, x_157, x_158, x_159, x_160, x_161, x_162, x_163, x_164, x_165, x_166, x_167, x_168, x_169, x_170, x_171, x_172, x_173, x_174, x_175, x_176, x_177, x_178, x_179, x_180, x_181, x_182, x_183, hS_o, hT_x_153, hT_x_154, hT_x_155, hT_x_156, hT_x_157, hb_x_158, hb_x_159, hb_x_160, hT_x_162, hb_q2, hb_x_163, hb_x_164, hT_x_169, hT_x_170, hb_x_171, hT_x_172, hT_x_173, hT_x_174, hT_x_175, hT_x_176, hT_x_177, hT_x_178, hT_x_179, hT_x_180, hT_x_181, hT_x_182, hb_x_183⟩ := hTy.k12 hT_o
    have hb_q2 : pr.2 ≤ 900 := hb_q2
    have hS_o : S_150 o = .inr (12, [.ref x_153, .ref x_154, .ref x_155, .ref x_156, .ref x_157, .int (nI x_158), .int (nI x_159), .int (nI x_160), .int x_161, .ref x_162, .int (nI (pr.2)), .int (nI x_163), .int (nI x_164), .int x_165, .int x_166, .int x_167, .int x_168, .ref x_169, .ref x_170, .int (nI x_171), .ref x_172, .ref x_173, .ref x_174, .ref x_175, .ref x_176, .ref x_177, .ref x_178, .ref x_179, .ref x_180, .ref x_181, .ref x_182, .int (nI x_183)]) := hS_o
    obtain ⟨hMK_, h14_, h15_, h16_, h9_, h3_⟩ := hM152
    obtain ⟨e12_, e11_, e13_, e5_, e6_, e0_⟩ := MKe hMK_ hS_o rfl rfl rfl rfl rfl rfl (by omega) (by omega) (by omega) (by omega)
    subst e12_ e11_ e13_ e5_ e6_ e0_
    have e14_ := h14_.symm.trans (inf_i hS_o rfl)
    subst e14_
    have e15_ := h15_.symm.trans (inf_i hS_o rfl)
    subst e15_
    have e16_ := h16_.symm.trans (inf_i hS_o rfl)
    subst e16_
    obtain ⟨f_184, hS_x_162⟩ := hTy.k55 hT_x_162
    have e9_ := h9_.symm.trans (fld_i hS_o rfl hS_x_162)
    subst e9_
    obtain ⟨f_185, hS_x_156⟩ := hTy.k53 hT_x_156
    have e3_ := h3_.symm.trans (lfd_i hS_o rfl hS_x_156)
    subst e3_
    refine lv_istore (lv' := [(4, .int r_151), (3, .int (nI k_75)), (2, .int (nI k_38)), (0, .ref o), (1, .int (nI wz))]) hx hb dX12_twoRead_37 hl (by decide) rfl (fun ls hl => ?_)
    refine lv_iload_n hx hb dX12_twoRead_39 rfl (lv_at hl 4 rfl) ?_
    refine lv_iconst (v := 2) hx hb dX12_twoRead_40 (by decide) ?_
    refine lv_icmp_ne (tgt := 51) hx hb dX12_twoRead_41 (by decide) (fun h => absurd ((nI_eq (a := wz) (b := 2) (by omega) (by omega)).mpr c_14) h) (fun _ => ?_)
    refine lv_aload_n hx hb dX12_twoRead_44 rfl (lv_at hl 3 rfl) ?_
    refine pl_calli (va_runV (As := []) (rest := []) ⟨hx, hb, hml, hown, hT⟩ (f_kind l dC dI cy L kap pr ad S_150 H.size o hTy hT_o g nm sp152 sn wr152 wa152 sen ra152 pa ki rs ⟨MKi (sp := sp152) (sn := sn) (pa := pa) (ki := ki) hS_o rfl rfl rfl rfl rfl rfl (by omega) (by omega) (by omega) (by omega), inf_i hS_o rfl, inf_i hS_o rfl, inf_i hS_o rfl, fld_i hS_o rfl hS_x_162, lfd_i hS_o rfl hS_x_156⟩ (by omega) hg df hN0 hN8) (cwV 0 hT (gV w1264 w1266 ws70 w14 w1267) rfl rfl rfl (by decide +kernel) ⟨(Nat.le_of_ble_eq_true rfl), (Nat.le_of_ble_eq_true rfl)⟩) ⟨pcS.blind, pl_recv hK hW hT_o.1 hS_o rfl, pcS.pre hW.1 hK hW.2.1 hN hSTR hW.2.2⟩ rfl rfl hl.1 rfl (lv_room (Nat.le_of_ble_eq_true rfl)) dX12_twoRead_45 ⟨(Nat.le_of_ble_eq_true rfl), (Nat.le_of_ble_eq_true rfl)⟩) hW hA0 hA (fun r_187 S_186 H locs hrel hW => ?_)
    obtain ⟨hTy, hF1, hx1⟩ := hrel
    have hFr := hFr.tr hF1 (by decide)
    have hS_x_10 := hF1.at hT_x_10 (by decide) hS_x_10
    have hS_x_4 := hF1.at hT_x_4 (by decide) hS_x_4
    have hS_rs := hF1.at hT_x_1 (by decide) hS_rs
    have hS_x_48 := hF1.at hT_x_48 (by decide) hS_x_48
    have hS_x_42 := hF1.at hT_x_42 (by decide) hS_x_42
    have hS_x_85 := hF1.at hT_x_85 (by decide) hS_x_85
    have hS_x_79 := hF1.at hT_x_79 (by decide) hS_x_79
    have hS_x_162 := hF1.at hT_x_162 (by decide) hS_x_162
    have hS_x_156 := hF1.at hT_x_156 (by decide) hS_x_156
    obtain ⟨sp188, wr188, wa188, ra188, hM188, hsb188, hER188, hOK188, k_189, hb_k_189, rfl⟩ := hx1
    obtain ⟨x_190, x_191, x_192, x_193, x_194, x_195, x_196, x_197, x_198, x_199, x_200, x_201, x_202, x_203, x_204, x_205, x_206, x_207, x_208, x_209, x_210, x_211, x_212, x_213, x_214, x_215, x_216, x_217, x_218, x_219, x_220, hS_o, hT_x_190, hT_x_191, hT_x_192, hT_x_193, hT_x_194, hb_x_195, hb_x_196, hb_x_197, hT_x_199, hb_q2, hb_x_200, hb_x_201, hT_x_206, hT_x_207, hb_x_208, hT_x_209, hT_x_210, hT_x_211, hT_x_212, hT_x_213, hT_x_214, hT_x_215, hT_x_216, hT_x_217, hT_x_218, hT_x_219, hb_x_220⟩ := hTy.k12 hT_o
    have hb_q2 : pr.2 ≤ 900 := hb_q2
    have hS_o : S_186 o = .inr (12, [.ref x_190, .ref x_191, .ref x_192, .ref x_193, .ref x_194, .int (nI x_195), .int (nI x_196), .int (nI x_197), .int x_198, .ref x_199, .int (nI (pr.2)), .int (nI x_200), .int (nI x_201), .int x_202, .int x_203, .int x_204, .int x_205, .ref x_206, .ref x_207, .int (nI x_208), .ref x_209, .ref x_210, .ref x_211, .ref x_212, .ref x_213, .ref x_214, .ref x_215, .ref x_216, .ref x_217, .ref x_218, .ref x_219, .int (nI x_220)]) := hS_o
    obtain ⟨hMK_, h14_, h15_, h16_, h9_, h3_⟩ := hM188
    obtain ⟨e12_, e11_, e13_, e5_, e6_, e0_⟩ := MKe hMK_ hS_o rfl rfl rfl rfl rfl rfl (by omega) (by omega) (by omega) (by omega)
    subst e12_ e11_ e13_ e5_ e6_ e0_
    have e14_ := h14_.symm.trans (inf_i hS_o rfl)
    subst e14_
    have e15_ := h15_.symm.trans (inf_i hS_o rfl)
    subst e15_
    have e16_ := h16_.symm.trans (inf_i hS_o rfl)
    subst e16_
    obtain ⟨f_221, hS_x_199⟩ := hTy.k55 hT_x_199
    have e9_ := h9_.symm.trans (fld_i hS_o rfl hS_x_199)
    subst e9_
    obtain ⟨f_222, hS_x_193⟩ := hTy.k53 hT_x_193
    have e3_ := h3_.symm.trans (lfd_i hS_o rfl hS_x_193)
    subst e3_
    refine lv_goto (tgt := 52) hx hb dX12_twoRead_48 (by decide) ?_
    refine lv_istore (lv' := [(5, .int (nI k_189)), (4, .int r_151), (3, .int (nI k_75)), (2, .int (nI k_38)), (0, .ref o), (1, .int (nI wz))]) hx hb dX12_twoRead_52 hl (by decide) rfl (fun ls hl => ?_)
    have hE2 : E2 g sn df pa ki wz sp = fe (ptc g sn df 0 pa sp, SK g sn sp) (fe (otc g sn df pa (tke g sn sp) (nI (FN g df 0 pa (SK g sn sp) (tke g sn sp - SK g sn sp))), SK g sn (tke g sn sp)) (fe (nbc g sn (tke g sn (tke g sn sp)) 1 999999, SK g sn (tke g sn (tke g sn sp))) (ptc g sn df 8 ki (tke g sn (tke g sn (tke g sn sp))), SK g sn (tke g sn (tke g sn (tke g sn sp)))))) := by unfold E2; rw [if_pos c_14, if_pos c_14, if_pos c_14]
    have hcmp := (two_c hER37 ptc_b hER74 otc_b hER152 nbc_b hER188 (fun a b => by obtain ⟨z1, z2, z3⟩ := hOK37 a b; rw [z1, z3]) (fun a b c => by have z := hOK74 (ERR_z hER37 a b).1 (by first | exact c | exact c); rw [z.1, (hOK37 a b).1]) (fun a b c d => by have z1 := hOK37 a b; have w1 := (ERR_z hER37 a b).1; have z2 := hOK74 w1 c; have w2 := (ERR_z hER74 w1 c).1; have z3 := hOK152 w2 d; rw [z3.1, z2.1, z1.1]))
    rw [← hE2] at hcmp
    refine lv_aload_n hx hb dX12_twoRead_54 rfl (lv_at hl 4 rfl) ?_
    refine pl_get (ci := 12) (v := .int wr188) (C := RX12) (T := TX12) (N := 32) hx hb hT iX12 hown hK hW hT_o.1 hS_o rfl 13 (by decide) w1095 rfl dX12_twoRead_55 ?_
    refine lv_if_eq (tgt := 62) hx hb dX12_twoRead_58 (by decide) (fun c_58 => ?_) (fun c_58 => ?_)
    · refine lv_iload_n hx hb dX12_twoRead_62 rfl (lv_at hl 5 rfl) ?_
      refine lv_iconst (v := 2) hx hb dX12_twoRead_63 (by decide) ?_
      refine lv_icmp_ne (tgt := 80) hx hb dX12_twoRead_64 (by decide) (fun h => absurd ((nI_eq (a := wz) (b := 2) (by omega) (by omega)).mpr c_14) h) (fun _ => ?_)
      have hm40 : mn < 40 := h40 c_14
      have w3_ : wr152 = 0 := by by_cases q : wr152 = 0; exact q; have z := (hER188.1 q).1; rw [c_58] at z; exact absurd z.symm q
      have w2_ : wr74 = 0 := by by_cases q : wr74 = 0; exact q; have z := (hER152.1 q).1; rw [w3_] at z; exact absurd z.symm q
      have w1_ : wr37 = 0 := by by_cases q : wr37 = 0; exact q; have z := (hER74.1 q).1; rw [w2_] at z; exact absurd z.symm q
      have o2_ : otc g sn df pa sp37 (nI k_38) = 0 := by by_cases q : otc g sn df pa sp37 (nI k_38) = 0; exact q; exact absurd w2_ (ERR_n hER74 w1_ q otc_b).1
      have habx : k_38 ≠ k_75 := fun e_ => (hOK74 w1_ o2_).2.2 (by rw [e_])
      refine lv_aload_n hx hb dX12_twoRead_67 rfl (lv_at hl 4 rfl) ?_
      refine lv_iload_n hx hb dX12_twoRead_68 rfl (lv_at hl 3 rfl) ?_
      refine lv_iload_n hx hb dX12_twoRead_69 rfl (lv_at hl 2 rfl) ?_
      refine lv_iload hx hb dX12_twoRead_70 (lv_at hl 1 rfl) ?_
      refine lv_iload hx hb dX12_twoRead_72 (lv_at hl 0 rfl) ?_
      refine pl_callv (va_runV (As := [.int (nI k_38), .int (nI k_75), .int r_151, .int (nI k_189)]) (rest := []) ⟨hx, hb, hml, hown, hT⟩ (f_adds l dC dI cy L kap pr S_186 H.size o k_38 k_75 r_151 k_189 hTy hT_o (by omega) (by omega) (by omega) mn kf (by rw [fld_i hS_o rfl hS_rs]; exact hsm_) hm40 (by rw [fld_i hS_o rfl hS_rs]; exact hdg_) habx) (cwV 4 hT (gV w1268 w1270 ws71 w14 w1271) rfl rfl rfl (by decide +kernel) ⟨(Nat.le_of_ble_eq_true rfl), (Nat.le_of_ble_eq_true rfl)⟩) ⟨pcN.blind, pl_recv hK hW hT_o.1 hS_o rfl, pcN.pre hW.1 hK hW.2.1 hN (fun q h => absurd h List.not_mem_nil)⟩ rfl rfl hl.1 rfl (lv_room (Nat.le_of_ble_eq_true rfl)) dX12_twoRead_74 ⟨(Nat.le_of_ble_eq_true rfl), (Nat.le_of_ble_eq_true rfl)⟩) hW hA0 hA (fun S_223 H locs hrel hW => ?_)
      obtain ⟨hTy, hF1, hx1⟩ := hrel
      have hFr := hFr.tr hF1 (by decide)
      have hS_x_10 := hF1.at hT_x_10 (by decide) hS_x_10
      have hS_x_4 := hF1.at hT_x_4 (by decide) hS_x_4
      have hS_x_48 := hF1.at hT_x_48 (by decide) hS_x_48
      have hS_x_42 := hF1.at hT_x_42 (by decide) hS_x_42
      have hS_x_85 := hF1.at hT_x_85 (by decide) hS_x_85
      have hS_x_79 := hF1.at hT_x_79 (by decide) hS_x_79
      have hS_x_162 := hF1.at hT_x_162 (by decide) hS_x_162
      have hS_x_156 := hF1.at hT_x_156 (by decide) hS_x_156
      have hS_o := hF1.at hT_o (by decide) hS_o
      have hS_x_199 := hF1.at hT_x_199 (by decide) hS_x_199
      have hS_x_193 := hF1.at hT_x_193 (by decide) hS_x_193
      obtain ⟨f_224, hS_rs, hi_f_224⟩ := hTy.k50 hT_x_1
      have hsm_ := hx1.1
      rw [fld_i hS_o rfl hS_rs] at hsm_
      have hdg_ : dg f_224 := by have q := hx1.2; rw [fld_i hS_o rfl hS_rs] at q; exact q
      refine lv_goto (tgt := 97) hx hb dX12_twoRead_77 (by decide) ?_
      exact W.vret hx hb hr (fun t ht h9 => ⟨⟨S_223, rfl, ⟨hTy, hFr, ⟨sp188, _, _, _, ⟨MKi (sp := sp188) (sn := sn) (pa := pa) (ki := ki) hS_o rfl rfl rfl rfl rfl rfl (by omega) (by omega) (by omega) (by omega), inf_i hS_o rfl, inf_i hS_o rfl, inf_i hS_o rfl, fld_i hS_o rfl hS_x_199, lfd_i hS_o rfl hS_x_193⟩, by omega, hcmp.1, fun a b => ⟨by have q := hcmp.2 a b; have z1 := hOK37 a q.1; have w1 := (ERR_z hER37 a q.1).1; have z2 := hOK74 w1 q.2.1; have w2 := (ERR_z hER74 w1 q.2.1).1; have z3 := hOK152 w2 q.2.2.1; have w3 := (ERR_z hER152 w2 q.2.2.1).1; have z4 := hOK188 w3 q.2.2.2; show _ = P2 g sn wz sp; unfold P2; rw [if_pos c_14, z4.1, z3.1, z2.1, z1.1], by rw [if_pos c_14, if_pos c_14]; exact (by rw [fld_i hS_o rfl hS_rs]; exact hsm_)⟩, (by rw [fld_i hS_o rfl hS_rs]; exact hdg_)⟩⟩, by rw [ht]; exact hW.1, va_K.moved h9.alike hK, hW.2.1⟩, hW.2.2.F ht⟩) hW.2.2.2.2 dX12_twoRead_97
    · exact W.vret hx hb hr (fun t ht h9 => ⟨⟨S_186, rfl, ⟨hTy, hFr, ⟨sp188, _, _, _, ⟨MKi (sp := sp188) (sn := sn) (pa := pa) (ki := ki) hS_o rfl rfl rfl rfl rfl rfl (by omega) (by omega) (by omega) (by omega), inf_i hS_o rfl, inf_i hS_o rfl, inf_i hS_o rfl, fld_i hS_o rfl hS_x_199, lfd_i hS_o rfl hS_x_193⟩, by omega, hcmp.1, fun a b => absurd (ERR_z hcmp.1 a b).1 c_58, (by rw [fld_i hS_o rfl hS_rs]; exact hdg_)⟩⟩, by rw [ht]; exact hW.1, va_K.moved h9.alike hK, hW.2.1⟩, hW.2.2.F ht⟩) hW.2.2.2.2 dX12_twoRead_61

