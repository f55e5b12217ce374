/-! the class's whole line -/
section CLX
variable {g : Nat → Int32} {n np nk mn p : Nat} {df : Nat → Nat × Nat} {kf : Nat → Bool} {md : Bool} {b : Bool} {q : Nat} {e s : Nat × Nat}
theorem FUy (h : b = true) : fe (fe (FU b q) e) s = (4, q) := by rw [show FU b q = (4, q) from if_pos h]; rfl
theorem FUn (h : ¬ b = true) : fe (fe (FU b q) e) s = fe e s := by rw [show FU b q = (0, 0) from if_neg h]; rfl
theorem CL_d (h : tkc g n p < 5) : EL g n df np nk mn kf md p = fe (1, SK g n p) s := by rw [EL_0 h]; rfl
theorem CL_0 (h : tkc g n p = 0 + 5) : EL g n df np nk mn kf md p = fe (fe (FU (decide (np = 8)) (SK g n p)) (nnc g n df np nk (tke g n p), SK g n (tke g n p))) (ES g n (tke g n (tke g n p))) := by
  by_cases z : np = 8
  · rw [FUy (decide_eq_true z)]
    exact EL_4 h (fun y => absurd y (by decide)) (Or.inl ⟨rfl, z⟩)
  · rw [FUn (fun y => z (of_decide_eq_true y))]
    exact EL_b h (fun y => absurd y (by decide)) (fun y => by rcases y with y | y | y; exact z y.2; exact absurd y.1 (by decide); exact absurd y.1 (by decide))
theorem CL_1 (h : tkc g n p = 1 + 5) : EL g n df np nk mn kf md p = fe (fe (FU (decide (nk = 4)) (SK g n p)) (nnc g n df np nk (tke g n p), SK g n (tke g n p))) (ES g n (tke g n (tke g n p))) := by
  by_cases z : nk = 4
  · rw [FUy (decide_eq_true z)]
    exact EL_4 h (fun y => absurd y (by decide)) (Or.inr (Or.inl ⟨rfl, z⟩))
  · rw [FUn (fun y => z (of_decide_eq_true y))]
    exact EL_b h (fun y => absurd y (by decide)) (fun y => by rcases y with y | y | y; exact absurd y.1 (by decide); exact z y.2; exact absurd y.1 (by decide))
theorem CL_2 (h : tkc g n p = 2 + 5) : EL g n df np nk mn kf md p = fe (fe (FU (decide (mn = 40)) (SK g n p)) (E2 g n df np nk 2 (tke g n p))) (ES g n (tke g n (tke g n (tke g n (tke g n (tke g n p)))))) := by
  by_cases z : mn = 40
  · rw [FUy (decide_eq_true z)]
    exact EL_4 h (fun y => absurd y (by decide)) (Or.inr (Or.inr ⟨rfl, z⟩))
  · rw [FUn (fun y => z (of_decide_eq_true y))]
    exact EL_b h (fun y => absurd y (by decide)) (fun y => by rcases y with y | y | y; exact absurd y.1 (by decide); exact absurd y.1 (by decide); exact z y.2)
theorem FU_3 {w : Nat} (hw : 3 ≤ w) : ¬ FUL w np nk mn := fun y => by
  rcases y with y | y | y
  · omega
  · omega
  · omega
theorem CL_3 (h : tkc g n p = 3 + 5) : EL g n df np nk mn kf md p = fe (fe (nbc g n (tke g n p) 0 (pd mn), SK g n (tke g n p)) (if kf (NV g (SK g n (tke g n p)) (tke g n (tke g n p) - SK g n (tke g n p))) = true then (5, SK g n (tke g n p)) else (0, 0))) (ES g n (tke g n (tke g n p))) := EL_b h (fun y => absurd y (by decide)) (FU_3 (by decide))
theorem CL_4 (h : tkc g n p = 4 + 5) : EL g n df np nk mn kf md p = fe (E2 g n df np nk 4 (tke g n p)) (ES g n (tke g n (tke g n (tke g n (tke g n p))))) := EL_b h (fun y => absurd y (by decide)) (FU_3 (by decide))
theorem CL_5 {mt : Int32} (h : tkc g n p = 5 + 5) (hm : mt = (if md = true then 1 else 0)) : EL g n df np nk mn kf md p = fe (fe (if mt = 0 then ((0 : Nat), 0) else (1, SK g n p)) (nbc g n (tke g n p) 0 3, SK g n (tke g n p))) (ES g n (tke g n (tke g n p))) := by
  cases md with
  | true =>
    rw [if_neg (show ¬ mt = 0 from by rw [hm]; decide)]
    exact EL_1 h rfl rfl
  | false =>
    rw [if_pos (show mt = 0 from by rw [hm]; decide)]
    exact EL_b h (fun _ => rfl) (FU_3 (by decide))
theorem EL_SK (hp : p ≤ n) (hn : n ≤ 900) : EL g n df np nk mn kf md (SK g n p) = EL g n df np nk mn kf md p := by
  unfold EL
  rw [(tkc_SK hp hn).1, (tkc_SK hp hn).2, SK_SK hp hn]
theorem PLn_SK (hp : p ≤ n) (hn : n ≤ 900) : PLn g n (SK g n p) = PLn g n p := by
  unfold PLn
  rw [(tkc_SK hp hn).1, (tkc_SK hp hn).2]
theorem tkc_n0 (h : SK g n p < n) : tkc g n p ≠ 0 := by
  by_cases hl : isL (g (SK g n p)) = true
  · rcases wdx_c g (SK g n p) (LT g n (SK g n p) - SK g n p) with ⟨-, hk⟩ | ⟨hw, hk⟩
    · rw [(tk_name h hl hk).1]
      split <;> omega
    · rw [(tk_word h hl hw hk).1]
      omega
  · by_cases hd : isD (g (SK g n p)) = true
    · rw [(tk_num h hl hd).1]
      omega
    · rw [(tk_sign h hl hd).1]
      split <;> omega
theorem tkc_z (h : tkc g n p ≠ 0) : SK g n p < n := by
  by_cases z : SK g n p < n
  · exact z
  · exact absurd (tk_end z).1 h
theorem PLn_le (hp : p ≤ n) (hn : n ≤ 900) : PLn g n p ≤ n := by
  have h1 := tke_i (g := g) hp hn
  have h2 := PB_i (g := g) (w := tkc g n p - 5) h1.2 hn
  exact (tke_i (g := g) h2.2 hn).2
end CLX
section CFR
variable {cy : Nat → ClassId} {L : List Nat} {kap : Nat → Nat} {pr : Pr} {S S' : Nat → va_E} {M : List Nat} {rn rb np nk mn : Nat} {g : Nat → Int32} {df : Nat → Nat × Nat} {kf : Nat → Bool}
theorem NQ_fr (hT : Ty cy L kap pr S') (ht : TK L kap rn 3) (hF : Fr kap M S S') (h3 : 3 ∉ M) (h25 : 25 ∉ M) (h26 : 26 ∉ M) (h : NQ S g df rn np nk) : NQ S' g df rn np nk := by
  obtain ⟨x0, x1, x2, x3, he, p0, p1, -, -⟩ := hT.k3 ht
  have e : S' rn = S rn := hF.1 rn (by rw [ht.2]; exact h3)
  have e0 : S' x0 = S x0 := hF.1 x0 (by rw [p0.2]; exact h25)
  have e1 : S' x1 = S x1 := hF.1 x1 (by rw [p1.2]; exact h26)
  have f0 : fld S' rn 0 = fld S rn 0 := by unfold fld; rw [← e, rf_i he rfl, e0]
  have f1 : fld S' rn 1 = fld S rn 1 := by unfold fld; rw [← e, rf_i he rfl, e1]
  unfold NQ
  rw [f0, f1, e]
  exact h
theorem BQ_fr (hT : Ty cy L kap pr S') (ht : TK L kap rb 0) (hF : Fr kap M S S') (h0 : 0 ∉ M) (h23 : 23 ∉ M) (h : BQ S rb mn kf) : BQ S' rb mn kf := by
  obtain ⟨x0, x1, x2, x3, x4, x5, x6, x7, he, p0, p1, p2, p3, p4, -, -⟩ := hT.k0 ht
  have e : S' rb = S rb := hF.1 rb (by rw [ht.2]; exact h0)
  have e4 : S' x4 = S x4 := hF.1 x4 (by rw [p4.2]; exact h23)
  have f4 : fld S' rb 4 = fld S rb 4 := by unfold fld; rw [← e, rf_i he rfl, e4]
  unfold BQ
  rw [f4, e]
  exact h
end CFR
/-- where a line leaves the reader, if nothing went wrong -/
def LNX (S' : Nat → va_E) (g : Nat → Int32) (en : Nat) (df : Nat → Nat × Nat) (np nk mn : Nat) (kf : Nat → Bool) (md : Bool) (sp rn rb : Nat) (mt' tk' : Int32) (ta' te' : Nat) : Prop := (tk' = nI (tkc g en (PLn g en sp)) ∧ ta' = SK g en (PLn g en sp) ∧ te' = tke g en (PLn g en sp)) ∧ mt' = (if Nmd (tkc g en sp - 5) md = true then 1 else 0) ∧ NQ S' g (Ndf g en (tkc g en sp - 5) np nk df (tke g en sp)) rn (Nnp (tkc g en sp - 5) np) (Nnk (tkc g en sp - 5) nk) ∧ BQ S' rb (Nmn (tkc g en sp - 5) mn) (Nkf g en (tkc g en sp - 5) mn kf (tke g en sp))
theorem LNX_i {S' : Nat → va_E} {g : Nat → Int32} {en : Nat} {df : Nat → Nat × Nat} {np nk mn : Nat} {kf : Nat → Bool} {md : Bool} {sp rn rb : Nat} {mt' tk' : Int32} {ta' te' : Nat} (w : Nat) (h : tkc g en sp = w + 5) (h1 : tk' = nI (tkc g en (tke g en (PB g en w (tke g en sp)))) ∧ ta' = SK g en (tke g en (PB g en w (tke g en sp))) ∧ te' = tke g en (tke g en (PB g en w (tke g en sp)))) (h2 : mt' = (if Nmd w md = true then 1 else 0)) (h3 : NQ S' g (Ndf g en w np nk df (tke g en sp)) rn (Nnp w np) (Nnk w nk)) (h4 : BQ S' rb (Nmn w mn) (Nkf g en w mn kf (tke g en sp))) : LNX S' g en df np nk mn kf md sp rn rb mt' tk' ta' te' := by
  have e : tkc g en sp - 5 = w := by omega
  unfold LNX PLn
  rw [e]
  exact ⟨h1, h2, h3, h4⟩
/-- between two lines, the class -/
def RIC (S : Nat → va_E) (g : Nat → Int32) (n rn rb i : Nat) (fa pl mt tk : Int32) (ta te : Nat) : Prop := (fa = 0 ∧ pl = -1 ∧ ∃ (sp gd : Nat) (df : Nat → Nat × Nat) (np nk mn : Nat) (kf : Nat → Bool) (md : Bool), sp ≤ n ∧ 902 ≤ gd + sp ∧ i ≤ sp ∧ NQ S g df rn np nk ∧ BQ S rb mn kf ∧ mt = (if md = true then 1 else 0) ∧ tk = nI (tkc g n sp) ∧ ta = SK g n sp ∧ te = tke g n sp ∧ TX g n = RN g n gd df np nk mn kf md sp) ∨ (fa ≠ 0 ∧ (TX g n).1 ≠ 0 ∧ fa = nI (TX g n).1 ∧ pl = nI (TX g n).2.1)
def RIL (S : Nat → va_E) (o : Nat) (g : Nat → Int32) (n rn rb rt i : Nat) : Prop := ∃ (fa pl mt tk : Int32) (ta te : Nat), RQ S o g fa pl rn rb rt n mt tk ta te ∧ RIC S g n rn rb i fa pl mt tk ta te
section RICS
variable {S S1 : Nat → va_E} {g : Nat → Int32} {n o rn rb rt i : Nat} {fa pl mt tk fa1 pl1 mt1 tk1 : Int32} {ta te ta1 te1 : Nat} {sp gd np nk mn : Nat} {df : Nat → Nat × Nat} {kf : Nat → Bool} {md : Bool}
theorem RIC_g (h : RIC S g n rn rb i fa pl mt tk ta te) (h0 : fa = 0) : pl = -1 ∧ ∃ (sp gd : Nat) (df : Nat → Nat × Nat) (np nk mn : Nat) (kf : Nat → Bool) (md : Bool), sp ≤ n ∧ 902 ≤ gd + sp ∧ i ≤ sp ∧ NQ S g df rn np nk ∧ BQ S rb mn kf ∧ mt = (if md = true then 1 else 0) ∧ tk = nI (tkc g n sp) ∧ ta = SK g n sp ∧ te = tke g n sp ∧ TX g n = RN g n gd df np nk mn kf md sp := by
  rcases h with ⟨-, h⟩ | ⟨h, -⟩
  · exact h
  · exact absurd h0 h
theorem RIC_0 (hN : NQ S g (fun _ => (0, 0)) rn 0 0) (hB : BQ S rb 0 (fun _ => false)) : RIC S g n rn rb 0 0 (-1) 0 (nI (tkc g n 0)) (SK g n 0) (tke g n 0) := Or.inl ⟨rfl, rfl, 0, 902, fun _ => (0, 0), 0, 0, 0, fun _ => false, false, Nat.zero_le _, Nat.le_refl _, Nat.zero_le _, hN, hB, rfl, rfl, rfl, rfl, rfl⟩
theorem RIC_s (h0 : fa = 0) (hpl : pl = -1) (hn : n ≤ 900) (hs : SK g n sp < n) (hsp : sp ≤ n) (hgd : 902 ≤ gd + sp) (hi : i ≤ sp) (hTX : TX g n = RN g n gd df np nk mn kf md sp) (hE : ERR fa pl (EL g n df np nk mn kf md sp).1 (EL g n df np nk mn kf md sp).2 fa1 pl1) (hO : fa1 = 0 → LNX S1 g n df np nk mn kf md sp rn rb mt1 tk1 ta1 te1) : RIC S1 g n rn rb (i + 1) fa1 pl1 mt1 tk1 ta1 te1 := by
  obtain ⟨gd, rfl⟩ : ∃ d, gd = d + 1 := ⟨gd - 1, by omega⟩
  by_cases q : (EL g n df np nk mn kf md sp).1 = 0
  · obtain ⟨e1, e2⟩ := ERR_z hE h0 q
    obtain ⟨⟨o1, o2, o3⟩, o4, o5, o6⟩ := hO e1
    have q' := q
    rw [← EL_SK hsp hn] at q'
    have hl := PLn_lt q' (by omega) hn
    have hg := SK_ge (g := g) (n := n) (i := sp)
    rw [PLn_SK hsp hn] at hl
    refine Or.inl ⟨e1, e2.trans hpl, PLn g n sp, gd, _, _, _, _, _, _, PLn_le hsp hn, by omega, by omega, o5, o6, o4, o1, o2, o3, ?_⟩
    rw [hTX, RN_s hs q', PLn_SK hsp hn, (tkc_SK hsp hn).1, (tkc_SK hsp hn).2]
  · obtain ⟨e1, e2, e3⟩ := ERR_n hE h0 q EL_lt
    have q' := q
    rw [← EL_SK hsp hn] at q'
    refine Or.inr ⟨e1, ?_⟩
    rw [hTX, RN_n hs q', EL_SK hsp hn]
    exact ⟨q, e2, e3⟩
/-- behind the last line -/
def RDX (S : Nat → va_E) (g : Nat → Int32) (n rb : Nat) (fa pl : Int32) : Prop := fa = nI (TX g n).1 ∧ ((TX g n).1 = 0 → pl = -1 ∧ inf (S rb) 6 = nI (TX g n).2.2) ∧ ((TX g n).1 ≠ 0 → fa ≠ 0 ∧ pl = nI (TX g n).2.1)
theorem RIC_e (h : RIC S g n rn rb i fa pl mt tk ta te) (hn : n ≤ 900) (he : 900 ≤ i ∨ fa ≠ 0 ∨ tk = 0) : RDX S g n rb fa pl := by
  rcases h with ⟨h0, h1, sp, gd, df, np, nk, mn, kf, md, a1, a2, a3, a4, a5, a6, a7, a8, a9, a10⟩ | ⟨h0, h1, h2, h3⟩
  · have hz : ¬ SK g n sp < n := by
      rcases he with z | z | z
      · have hg := SK_ge (g := g) (n := n) (i := sp)
        omega
      · exact absurd h0 z
      · intro y
        have hk := tkc_le (g := g) (n := n) (p := sp)
        exact tkc_n0 y ((nI_eq (a := tkc g n sp) (b := 0) (by omega) (by omega)).mp (a7.symm.trans z))
    have e : TX g n = (0, 0, mn) := a10.trans (RN_e hz)
    unfold RDX
    rw [e]
    exact ⟨h0, fun _ => ⟨h1, a5.1⟩, fun z => absurd rfl z⟩
  · exact ⟨h2, fun z => absurd z h1, fun _ => ⟨h0, h3⟩⟩
theorem NQ_0 (h2 : inf (S rn) 2 = nI 0) (h3 : inf (S rn) 3 = nI 0) : NQ S g df rn 0 0 := ⟨h2, h3, by decide, by decide, fun k h => absurd h (Nat.not_lt_zero _), fun k h => absurd h (Nat.not_lt_zero _)⟩
theorem BQ_0 (h : inf (S rb) 6 = nI 0) : BQ S rb 0 kf := ⟨h, by decide, fun t h => absurd h (Nat.not_lt_zero _)⟩
end RICS

set_option maxHeartbeats 4000000 in
set_option maxRecDepth 100000 in
theorem q_readLine (l : Launch) (dC : Nat → ClassId) (dI : Nat → Nat → Nat) (cy : Nat → ClassId) (L : List Nat) (kap : Nat → Nat) (pr : Pr) (ad : (Nat → Nat) × (Nat → Nat)) (S : Nat → va_E) (sz : Nat) (o : Nat) (hTy : Ty cy L kap pr S) (hT_o : TK L kap o 6) (g : Nat → Int32) (fa : Int32) (pl : Int32) (rn : Nat) (rb : Nat) (rt : Nat) (en : Nat) (mt : Int32) (sp : Nat) (hQ : RQ S o g fa pl rn rb rt en mt (nI (tkc g en sp)) (SK g en sp) (tke g en sp)) (hp : sp ≤ en) (df : Nat → Nat × Nat) (np : Nat) (nk : Nat) (hNq : NQ S g df rn np nk) (mn : Nat) (kf : Nat → Bool) (hBq : BQ S rb mn kf) (hg : BR g) (md : Bool) (hmd : mt = (if md = true then 1 else 0)) : Met l yX6_readLine (wT yX6_readLine cX6_readLine 1 none) ({ frames := 8, cells := 0, slots := 0, locals := 171 }) (pcS dC dI [.ref o] sz L S (cyT cy) NLs ad) (va_Qv (fun S' => Ty cy L kap pr S' ∧ Fr kap [0, 3, 6, 20, 21, 22, 23, 24, 25, 26] S S' ∧ (∃ (fa' pl' mt' tk' : Int32) (ta' te' : Nat), RQ S' o g fa' pl' rn rb rt en mt' tk' ta' te' ∧ ERR fa pl (EL g en df np nk mn kf md sp).1 (EL g en df np nk mn kf md sp).2 fa' pl' ∧ (fa' = 0 → LNX S' g en df np nk mn kf md sp rn rb mt' tk' ta' te'))) (fun S' t => pB dC dI (AL L sz) (va_pl L S') (cyT cy) t) (AL L sz)) 0 0 (AL L sz) := by
  refine Met.ofW (cc := cX6_readLine) (maxL := 1) (ret := none) (by decide) rfl ?_
  intro p e s m args below meth c s₁ B hml hv
  obtain ⟨rfl, hsz, hP, hK, hD0, hN, hSTR⟩ := hv
  have hx := B.exec
  have hb := B.bytes
  have hr := B.returns
  have hT : ∀ wd ∈ TB, wd.before [.ref o].toArray s = true := fun wd h => atoms_spec (ws := wT yX6_readLine cX6_readLine 1 none) B.pre wd (List.mem_cons_of_mem _ h)
  have hown : s.vm.findClass RX6 = some m.cls := findClass_of_methodNamed B.named
  have hlocks := B.notSynchronized
  subst hsz
  have hW : PW dC dI L (AL L s.heap.size) s.heap S s.heap [] := ⟨hP, pl_self hD0, va_S.rf⟩
  have hA0 : ∀ q, q ∈ L → AL L s.heap.size q := fun _ h => Or.inl h
  have hA : ∀ q, s.heap.size ≤ q → AL L s.heap.size q := fun _ h => Or.inr h
  have hFr : Fr kap [0, 3, 6, 20, 21, 22, 23, 24, 25, 26] S S := Fr.rf
  have hl := lv_entry ([.ref o]) (n := 1) (Nat.le_of_ble_eq_true rfl)
  rw [lg_entry_eq]
  generalize (lg_sl ([.ref o]) ++ List.replicate (1 - (lg_sl ([.ref o])).length) Slot.unset).toArray = ls at hl ⊢
  have hl : lv_has ls 1 [(0, .ref o)] := hl
  obtain ⟨hS_o, hT_rn, hT_rb, hT_rt, hQg_, hen_, hta_, hte_⟩ := RQk hTy hT_o hQ
  obtain ⟨f_1, hS_rt⟩ := hTy.k27 hT_rt
  have eg_ := hQg_.symm.trans (af_i hS_rt)
  subst eg_
  have htkb_ := tkc_le (g := g) (n := en) (p := sp)
  have htb_ := tke_b (g := g) (n := en) (p := sp) (by omega) (by omega)
  have htb1_ := tke_b (g := g) (n := en) (p := tke g en sp) (by omega) (by omega)
  have htb2_ := tke_b (g := g) (n := en) (p := tke g en (tke g en sp)) (by omega) (by omega)
  have htb3_ := tke_b (g := g) (n := en) (p := tke g en (tke g en (tke g en sp))) (by omega) (by omega)
  have htb4_ := tke_b (g := g) (n := en) (p := tke g en (tke g en (tke g en (tke g en sp)))) (by omega) (by omega)
  refine lv_aload_n hx hb dX6_readLine_0 rfl (lv_at hl 0 rfl) ?_
  refine pl_get (ci := 6) (v := .int (nI (tkc g en sp))) (C := RX6) (T := TX6) (N := 10) hx hb hT iX6 hown hK hW hT_o.1 hS_o rfl 7 (by decide) w150 rfl dX6_readLine_1 ?_
  obtain ⟨tkv, htkv⟩ : ∃ z, z = nI (tkc g en sp) := ⟨_, rfl⟩
  rw [← htkv]
  by_cases hk_4_5 : tkv = 5
  · rw [hk_4_5]
    refine lv_tableIn (off := 40) (tgt := 44) hx hb dX6_readLine_4 (by decide) (by decide) rfl (by decide) ?_
    refine lv_aload_n hx hb dX6_readLine_44 rfl (lv_at hl 0 rfl) ?_
    refine pl_callv (va_runV (As := []) (rest := []) ⟨hx, hb, hml, hown, hT⟩ (q_readParty l dC dI cy L kap pr ad S s.heap.size o hTy hT_o g fa pl rn rb rt en mt sp ⟨hS_o, af_i hS_rt, by omega, by omega, by omega⟩ (by omega) df np nk hNq hg) (cwV 0 hT (gV w496 w498 ws4 w3 w499) rfl rfl rfl (by decide +kernel) ⟨(Nat.le_of_ble_eq_true rfl), (Nat.le_of_ble_eq_true rfl)⟩) ⟨pcS.blind, pl_recv hK hW hT_o.1 hS_o rfl, pcS.pre hW.1 hK hW.2.1 hN hSTR hW.2.2⟩ rfl rfl hl.1 rfl (lv_room (Nat.le_of_ble_eq_true rfl)) dX6_readLine_45 ⟨(Nat.le_of_ble_eq_true rfl), (Nat.le_of_ble_eq_true rfl)⟩) hW hA0 hA (fun S_2 H locs hrel hW => ?_)
    obtain ⟨hTy, hF1, hx1⟩ := hrel
    have hFr := hFr.tr hF1 (by decide)
    have hS_rt := hF1.at hT_rt (by decide) hS_rt
    obtain ⟨fa1, pl1, hQ1, hE1, hX1⟩ := hx1
    obtain ⟨hS_o, hT_rn, hT_rb, hT_rt, hQg_, hen_, hta_, hte_⟩ := RQk hTy hT_o hQ1
    obtain ⟨f_3, hS_rt⟩ := hTy.k27 hT_rt
    have eg_ := hQg_.symm.trans (af_i hS_rt)
    subst eg_
    have hw_ : tkc g en sp = 0 + 5 := (nI_eq (a := tkc g en sp) (b := 5) (by omega) (by omega)).mp (htkv.symm.trans hk_4_5)
    have hN1 := hX1
    have hB1 := fun (_ : fa1 = 0) => BQ_fr hTy hT_rb hF1 (by decide) (by decide) hBq
    refine lv_goto (tgt := 91) hx hb dX6_readLine_48 (by decide) ?_
    refine lv_aload_n hx hb dX6_readLine_91 rfl (lv_at hl 0 rfl) ?_
    refine pl_callv (va_runV (As := []) (rest := []) ⟨hx, hb, hml, hown, hT⟩ (q_readSemicolon l dC dI cy L kap pr ad S_2 H.size o hTy hT_o g fa1 pl1 rn rb rt en mt (tke g en (tke g en sp)) ⟨hS_o, af_i hS_rt, by omega, by omega, by omega⟩ (by omega)) (cwV 0 hT (gV w582 w584 ws20 w3 w585) rfl rfl rfl (by decide +kernel) ⟨(Nat.le_of_ble_eq_true rfl), (Nat.le_of_ble_eq_true rfl)⟩) ⟨pcS.blind, pl_recv hK hW hT_o.1 hS_o rfl, pcS.pre hW.1 hK hW.2.1 hN hSTR hW.2.2⟩ rfl rfl hl.1 rfl (lv_room (Nat.le_of_ble_eq_true rfl)) dX6_readLine_92 ⟨(Nat.le_of_ble_eq_true rfl), (Nat.le_of_ble_eq_true rfl)⟩) hW hA0 hA (fun S_4 H locs hrel hW => ?_)
    obtain ⟨hTy, hF1, hx1⟩ := hrel
    have hFr := hFr.tr hF1 (by decide)
    have hS_rt := hF1.at hT_rt (by decide) hS_rt
    obtain ⟨fa2, pl2, hQ2, hE2⟩ := hx1
    obtain ⟨hS_o, hT_rn, hT_rb, hT_rt, hQg_, hen_, hta_, hte_⟩ := RQk hTy hT_o hQ2
    obtain ⟨f_6, hS_rt⟩ := hTy.k27 hT_rt
    have eg_ := hQg_.symm.trans (af_i hS_rt)
    subst eg_
    have hN2 := fun (z : fa1 = 0) => NQ_fr hTy hT_rn hF1 (by decide) (by decide) (by decide) (hN1 z)
    have hB2 := fun (z : fa1 = 0) => BQ_fr hTy hT_rb hF1 (by decide) (by decide) (hB1 z)
    exact W.vret hx hb hr (fun t ht h9 => ⟨⟨S_4, rfl, ⟨hTy, hFr, ⟨_, _, _, _, _, _, ⟨hS_o, af_i hS_rt, by omega, by omega, by omega⟩, by rw [CL_0 hw_]; exact ERR_2 (fe_b FU_b nnc_b) hE1 hE2, fun z => LNX_i 0 hw_ ⟨rfl, rfl, rfl⟩ hmd (hN2 (z_ERR hE2 z)) (hB2 (z_ERR hE2 z))⟩⟩, by rw [ht]; exact hW.1, va_K.moved h9.alike hK, hW.2.1⟩, hW.2.2.F ht⟩) hW.2.2.2.2 dX6_readLine_95
  by_cases hk_4_6 : tkv = 6
  · rw [hk_4_6]
    refine lv_tableIn (off := 47) (tgt := 51) hx hb dX6_readLine_4 (by decide) (by decide) rfl (by decide) ?_
    refine lv_aload_n hx hb dX6_readLine_51 rfl (lv_at hl 0 rfl) ?_
    refine pl_callv (va_runV (As := []) (rest := []) ⟨hx, hb, hml, hown, hT⟩ (q_readKind l dC dI cy L kap pr ad S s.heap.size o hTy hT_o g fa pl rn rb rt en mt sp ⟨hS_o, af_i hS_rt, by omega, by omega, by omega⟩ (by omega) df np nk hNq hg) (cwV 0 hT (gV w533 w535 ws11 w3 w536) rfl rfl rfl (by decide +kernel) ⟨(Nat.le_of_ble_eq_true rfl), (Nat.le_of_ble_eq_true rfl)⟩) ⟨pcS.blind, pl_recv hK hW hT_o.1 hS_o rfl, pcS.pre hW.1 hK hW.2.1 hN hSTR hW.2.2⟩ rfl rfl hl.1 rfl (lv_room (Nat.le_of_ble_eq_true rfl)) dX6_readLine_52 ⟨(Nat.le_of_ble_eq_true rfl), (Nat.le_of_ble_eq_true rfl)⟩) hW hA0 hA (fun S_7 H locs hrel hW => ?_)
    obtain ⟨hTy, hF1, hx1⟩ := hrel
    have hFr := hFr.tr hF1 (by decide)
    have hS_rt := hF1.at hT_rt (by decide) hS_rt
    obtain ⟨fa1, pl1, hQ1, hE1, hX1⟩ := hx1
    obtain ⟨hS_o, hT_rn, hT_rb, hT_rt, hQg_, hen_, hta_, hte_⟩ := RQk hTy hT_o hQ1
    obtain ⟨f_8, hS_rt⟩ := hTy.k27 hT_rt
    have eg_ := hQg_.symm.trans (af_i hS_rt)
    subst eg_
    have hw_ : tkc g en sp = 1 + 5 := (nI_eq (a := tkc g en sp) (b := 6) (by omega) (by omega)).mp (htkv.symm.trans hk_4_6)
    have hN1 := hX1
    have hB1 := fun (_ : fa1 = 0) => BQ_fr hTy hT_rb hF1 (by decide) (by decide) hBq
    refine lv_goto (tgt := 91) hx hb dX6_readLine_55 (by decide) ?_
    refine lv_aload_n hx hb dX6_readLine_91 rfl (lv_at hl 0 rfl) ?_
    refine pl_callv (va_runV (As := []) (rest := []) ⟨hx, hb, hml, hown, hT⟩ (q_readSemicolon l dC dI cy L kap pr ad S_7 H.size o hTy hT_o g fa1 pl1 rn rb rt en mt (tke g en (tke g en sp)) ⟨hS_o, af_i hS_rt, by omega, by omega, by omega⟩ (by omega)) (cwV 0 hT (gV w582 w584 ws20 w3 w585) rfl rfl rfl (by decide +kernel) ⟨(Nat.le_of_ble_eq_true rfl), (Nat.le_of_ble_eq_true rfl)⟩) ⟨pcS.blind, pl_recv hK hW hT_o.1 hS_o rfl, pcS.pre hW.1 hK hW.2.1 hN hSTR hW.2.2⟩ rfl rfl hl.1 rfl (lv_room (Nat.le_of_ble_eq_true rfl)) dX6_readLine_92 ⟨(Nat.le_of_ble_eq_true rfl), (Nat.le_of_ble_eq_true rfl)⟩) hW hA0 hA (fun S_9 H locs hrel hW => ?_)
    obtain ⟨hTy, hF1, hx1⟩ := hrel
    have hFr := hFr.tr hF1 (by decide)
    have hS_rt := hF1.at hT_rt (by decide) hS_rt
    obtain ⟨fa2, pl2, hQ2, hE2⟩ := hx1
    obtain ⟨hS_o, hT_rn, hT_rb, hT_rt, hQg_, hen_, hta_, hte_⟩ := RQk hTy hT_o hQ2
    obtain ⟨f_11, hS_rt⟩ := hTy.k27 hT_rt
    have eg_ := hQg_.symm.trans (af_i hS_rt)
    subst eg_
    have hN2 := fun (z : fa1 = 0) => NQ_fr hTy hT_rn hF1 (by decide) (by decide) (by decide) (hN1 z)
    have hB2 := fun (z : fa1 = 0) => BQ_fr hTy hT_rb hF1 (by decide) (by decide) (hB1 z)
    exact W.vret hx hb hr (fun t ht h9 => ⟨⟨S_9, rfl, ⟨hTy, hFr, ⟨_, _, _, _, _, _, ⟨hS_o, af_i hS_rt, by omega, by omega, by omega⟩, by rw [CL_1 hw_]; exact ERR_2 (fe_b FU_b nnc_b) hE1 hE2, fun z => LNX_i 1 hw_ ⟨rfl, rfl, rfl⟩ hmd (hN2 (z_ERR hE2 z)) (hB2 (z_ERR hE2 z))⟩⟩, by rw [ht]; exact hW.1, va_K.moved h9.alike hK, hW.2.1⟩, hW.2.2.F ht⟩) hW.2.2.2.2 dX6_readLine_95
  by_cases hk_4_7 : tkv = 7
  · rw [hk_4_7]
    refine lv_tableIn (off := 54) (tgt := 58) hx hb dX6_readLine_4 (by decide) (by decide) rfl (by decide) ?_
    refine lv_aload_n hx hb dX6_readLine_58 rfl (lv_at hl 0 rfl) ?_
    refine pl_callv (va_runV (As := []) (rest := []) ⟨hx, hb, hml, hown, hT⟩ (q_readTrade l dC dI cy L kap pr ad S s.heap.size o hTy hT_o g fa pl rn rb rt en mt sp ⟨hS_o, af_i hS_rt, by omega, by omega, by omega⟩ (by omega) df np nk hNq mn kf hBq) (cwV 0 hT (gV w541 w543 ws12 w3 w544) rfl rfl rfl (by decide +kernel) ⟨(Nat.le_of_ble_eq_true rfl), (Nat.le_of_ble_eq_true rfl)⟩) ⟨pcS.blind, pl_recv hK hW hT_o.1 hS_o rfl, pcS.pre hW.1 hK hW.2.1 hN hSTR hW.2.2⟩ rfl rfl hl.1 rfl (lv_room (Nat.le_of_ble_eq_true rfl)) dX6_readLine_59 ⟨(Nat.le_of_ble_eq_true rfl), (Nat.le_of_ble_eq_true rfl)⟩) hW hA0 hA (fun S_12 H locs hrel hW => ?_)
    obtain ⟨hTy, hF1, hx1⟩ := hrel
    have hFr := hFr.tr hF1 (by decide)
    have hS_rt := hF1.at hT_rt (by decide) hS_rt
    obtain ⟨fa1, pl1, hQ1, hE1, hX1⟩ := hx1
    obtain ⟨hS_o, hT_rn, hT_rb, hT_rt, hQg_, hen_, hta_, hte_⟩ := RQk hTy hT_o hQ1
    obtain ⟨f_13, hS_rt⟩ := hTy.k27 hT_rt
    have eg_ := hQg_.symm.trans (af_i hS_rt)
    subst eg_
    have hw_ : tkc g en sp = 2 + 5 := (nI_eq (a := tkc g en sp) (b := 7) (by omega) (by omega)).mp (htkv.symm.trans hk_4_7)
    have hN1 := fun (_ : fa1 = 0) => NQ_fr hTy hT_rn hF1 (by decide) (by decide) (by decide) hNq
    have hB1 := hX1
    refine lv_goto (tgt := 91) hx hb dX6_readLine_62 (by decide) ?_
    refine lv_aload_n hx hb dX6_readLine_91 rfl (lv_at hl 0 rfl) ?_
    refine pl_callv (va_runV (As := []) (rest := []) ⟨hx, hb, hml, hown, hT⟩ (q_readSemicolon l dC dI cy L kap pr ad S_12 H.size o hTy hT_o g fa1 pl1 rn rb rt en mt (tke g en (tke g en (tke g en (tke g en (tke g en sp))))) ⟨hS_o, af_i hS_rt, by omega, by omega, by omega⟩ (by omega)) (cwV 0 hT (gV w582 w584 ws20 w3 w585) rfl rfl rfl (by decide +kernel) ⟨(Nat.le_of_ble_eq_true rfl), (Nat.le_of_ble_eq_true rfl)⟩) ⟨pcS.blind, pl_recv hK hW hT_o.1 hS_o rfl, pcS.pre hW.1 hK hW.2.1 hN hSTR hW.2.2⟩ rfl rfl hl.1 rfl (lv_room (Nat.le_of_ble_eq_true rfl)) dX6_readLine_92 ⟨(Nat.le_of_ble_eq_true rfl), (Nat.le_of_ble_eq_true rfl)⟩) hW hA0 hA (fun S_14 H locs hrel hW => ?_)
    obtain ⟨hTy, hF1, hx1⟩ := hrel
    have hFr := hFr.tr hF1 (by decide)
    have hS_rt := hF1.at hT_rt (by decide) hS_rt
    obtain ⟨fa2, pl2, hQ2, hE2⟩ := hx1
    obtain ⟨hS_o, hT_rn, hT_rb, hT_rt, hQg_, hen_, hta_, hte_⟩ := RQk hTy hT_o hQ2
    obtain ⟨f_16, hS_rt⟩ := hTy.k27 hT_rt
    have eg_ := hQg_.symm.trans (af_i hS_rt)
    subst eg_
    have hN2 := fun (z : fa1 = 0) => NQ_fr hTy hT_rn hF1 (by decide) (by decide) (by decide) (hN1 z)
    have hB2 := fun (z : fa1 = 0) => BQ_fr hTy hT_rb hF1 (by decide) (by decide) (hB1 z)
    exact W.vret hx hb hr (fun t ht h9 => ⟨⟨S_14, rfl, ⟨hTy, hFr, ⟨_, _, _, _, _, _, ⟨hS_o, af_i hS_rt, by omega, by omega, by omega⟩, by rw [CL_2 hw_]; exact ERR_2 (fe_b FU_b E2_b) hE1 hE2, fun z => LNX_i 2 hw_ ⟨rfl, rfl, rfl⟩ hmd (hN2 (z_ERR hE2 z)) (hB2 (z_ERR hE2 z))⟩⟩, by rw [ht]; exact hW.1, va_K.moved h9.alike hK, hW.2.1⟩, hW.2.2.F ht⟩) hW.2.2.2.2 dX6_readLine_95
  by_cases hk_4_8 : tkv = 8
  · rw [hk_4_8]
    refine lv_tableIn (off := 61) (tgt := 65) hx hb dX6_readLine_4 (by decide) (by decide) rfl (by decide) ?_
    refine lv_aload_n hx hb dX6_readLine_65 rfl (lv_at hl 0 rfl) ?_
    refine pl_callv (va_runV (As := []) (rest := []) ⟨hx, hb, hml, hown, hT⟩ (q_readKeep l dC dI cy L kap pr ad S s.heap.size o hTy hT_o g fa pl rn rb rt en mt sp ⟨hS_o, af_i hS_rt, by omega, by omega, by omega⟩ (by omega) mn kf hBq) (cwV 0 hT (gV w566 w568 ws17 w3 w569) rfl rfl rfl (by decide +kernel) ⟨(Nat.le_of_ble_eq_true rfl), (Nat.le_of_ble_eq_true rfl)⟩) ⟨pcS.blind, pl_recv hK hW hT_o.1 hS_o rfl, pcS.pre hW.1 hK hW.2.1 hN hSTR hW.2.2⟩ rfl rfl hl.1 rfl (lv_room (Nat.le_of_ble_eq_true rfl)) dX6_readLine_66 ⟨(Nat.le_of_ble_eq_true rfl), (Nat.le_of_ble_eq_true rfl)⟩) hW hA0 hA (fun S_17 H locs hrel hW => ?_)
    obtain ⟨hTy, hF1, hx1⟩ := hrel
    have hFr := hFr.tr hF1 (by decide)
    have hS_rt := hF1.at hT_rt (by decide) hS_rt
    obtain ⟨fa1, pl1, hQ1, hE1, hX1⟩ := hx1
    obtain ⟨hS_o, hT_rn, hT_rb, hT_rt, hQg_, hen_, hta_, hte_⟩ := RQk hTy hT_o hQ1
    obtain ⟨f_18, hS_rt⟩ := hTy.k27 hT_rt
    have eg_ := hQg_.symm.trans (af_i hS_rt)
    subst eg_
    have hw_ : tkc g en sp = 3 + 5 := (nI_eq (a := tkc g en sp) (b := 8) (by omega) (by omega)).mp (htkv.symm.trans hk_4_8)
    have hN1 := fun (_ : fa1 = 0) => NQ_fr hTy hT_rn hF1 (by decide) (by decide) (by decide) hNq
    have hB1 := hX1
    refine lv_goto (tgt := 91) hx hb dX6_readLine_69 (by decide) ?_
    refine lv_aload_n hx hb dX6_readLine_91 rfl (lv_at hl 0 rfl) ?_
    refine pl_callv (va_runV (As := []) (rest := []) ⟨hx, hb, hml, hown, hT⟩ (q_readSemicolon l dC dI cy L kap pr ad S_17 H.size o hTy hT_o g fa1 pl1 rn rb rt en mt (tke g en (tke g en sp)) ⟨hS_o, af_i hS_rt, by omega, by omega, by omega⟩ (by omega)) (cwV 0 hT (gV w582 w584 ws20 w3 w585) rfl rfl rfl (by decide +kernel) ⟨(Nat.le_of_ble_eq_true rfl), (Nat.le_of_ble_eq_true rfl)⟩) ⟨pcS.blind, pl_recv hK hW hT_o.1 hS_o rfl, pcS.pre hW.1 hK hW.2.1 hN hSTR hW.2.2⟩ rfl rfl hl.1 rfl (lv_room (Nat.le_of_ble_eq_true rfl)) dX6_readLine_92 ⟨(Nat.le_of_ble_eq_true rfl), (Nat.le_of_ble_eq_true rfl)⟩) hW hA0 hA (fun S_19 H locs hrel hW => ?_)
    obtain ⟨hTy, hF1, hx1⟩ := hrel
    have hFr := hFr.tr hF1 (by decide)
    have hS_rt := hF1.at hT_rt (by decide) hS_rt
    obtain ⟨fa2, pl2, hQ2, hE2⟩ := hx1
    obtain ⟨hS_o, hT_rn, hT_rb, hT_rt, hQg_, hen_, hta_, hte_⟩ := RQk hTy hT_o hQ2
    obtain ⟨f_21, hS_rt⟩ := hTy.k27 hT_rt
    have eg_ := hQg_.symm.trans (af_i hS_rt)
    subst eg_
    have hN2 := fun (z : fa1 = 0) => NQ_fr hTy hT_rn hF1 (by decide) (by decide) (by decide) (hN1 z)
    have hB2 := fun (z : fa1 = 0) => BQ_fr hTy hT_rb hF1 (by decide) (by decide) (hB1 z)
    exact W.vret hx hb hr (fun t ht h9 => ⟨⟨S_19, rfl, ⟨hTy, hFr, ⟨_, _, _, _, _, _, ⟨hS_o, af_i hS_rt, by omega, by omega, by omega⟩, by rw [CL_3 hw_]; exact ERR_2 (fe_b nbc_b (by split; show 5 < 100; decide; show 0 < 100; decide)) hE1 hE2, fun z => LNX_i 3 hw_ ⟨rfl, rfl, rfl⟩ hmd (hN2 (z_ERR hE2 z)) (hB2 (z_ERR hE2 z))⟩⟩, by rw [ht]; exact hW.1, va_K.moved h9.alike hK, hW.2.1⟩, hW.2.2.F ht⟩) hW.2.2.2.2 dX6_readLine_95
  by_cases hk_4_9 : tkv = 9
  · rw [hk_4_9]
    refine lv_tableIn (off := 68) (tgt := 72) hx hb dX6_readLine_4 (by decide) (by decide) rfl (by decide) ?_
    refine lv_aload_n hx hb dX6_readLine_72 rfl (lv_at hl 0 rfl) ?_
    refine pl_callv (va_runV (As := []) (rest := []) ⟨hx, hb, hml, hown, hT⟩ (q_readCap l dC dI cy L kap pr ad S s.heap.size o hTy hT_o g fa pl rn rb rt en mt sp ⟨hS_o, af_i hS_rt, by omega, by omega, by omega⟩ (by omega) df np nk hNq mn kf hBq) (cwV 0 hT (gV w570 w572 ws18 w3 w573) rfl rfl rfl (by decide +kernel) ⟨(Nat.le_of_ble_eq_true rfl), (Nat.le_of_ble_eq_true rfl)⟩) ⟨pcS.blind, pl_recv hK hW hT_o.1 hS_o rfl, pcS.pre hW.1 hK hW.2.1 hN hSTR hW.2.2⟩ rfl rfl hl.1 rfl (lv_room (Nat.le_of_ble_eq_true rfl)) dX6_readLine_73 ⟨(Nat.le_of_ble_eq_true rfl), (Nat.le_of_ble_eq_true rfl)⟩) hW hA0 hA (fun S_22 H locs hrel hW => ?_)
    obtain ⟨hTy, hF1, hx1⟩ := hrel
    have hFr := hFr.tr hF1 (by decide)
    have hS_rt := hF1.at hT_rt (by decide) hS_rt
    obtain ⟨fa1, pl1, hQ1, hE1, hX1⟩ := hx1
    obtain ⟨hS_o, hT_rn, hT_rb, hT_rt, hQg_, hen_, hta_, hte_⟩ := RQk hTy hT_o hQ1
    obtain ⟨f_23, hS_rt⟩ := hTy.k27 hT_rt
    have eg_ := hQg_.symm.trans (af_i hS_rt)
    subst eg_
    have hw_ : tkc g en sp = 4 + 5 := (nI_eq (a := tkc g en sp) (b := 9) (by omega) (by omega)).mp (htkv.symm.trans hk_4_9)
    have hN1 := fun (_ : fa1 = 0) => NQ_fr hTy hT_rn hF1 (by decide) (by decide) (by decide) hNq
    have hB1 := fun (_ : fa1 = 0) => hX1
    refine lv_goto (tgt := 91) hx hb dX6_readLine_76 (by decide) ?_
    refine lv_aload_n hx hb dX6_readLine_91 rfl (lv_at hl 0 rfl) ?_
    refine pl_callv (va_runV (As := []) (rest := []) ⟨hx, hb, hml, hown, hT⟩ (q_readSemicolon l dC dI cy L kap pr ad S_22 H.size o hTy hT_o g fa1 pl1 rn rb rt en mt (tke g en (tke g en (tke g en (tke g en sp)))) ⟨hS_o, af_i hS_rt, by omega, by omega, by omega⟩ (by omega)) (cwV 0 hT (gV w582 w584 ws20 w3 w585) rfl rfl rfl (by decide +kernel) ⟨(Nat.le_of_ble_eq_true rfl), (Nat.le_of_ble_eq_true rfl)⟩) ⟨pcS.blind, pl_recv hK hW hT_o.1 hS_o rfl, pcS.pre hW.1 hK hW.2.1 hN hSTR hW.2.2⟩ rfl rfl hl.1 rfl (lv_room (Nat.le_of_ble_eq_true rfl)) dX6_readLine_92 ⟨(Nat.le_of_ble_eq_true rfl), (Nat.le_of_ble_eq_true rfl)⟩) hW hA0 hA (fun S_24 H locs hrel hW => ?_)
    obtain ⟨hTy, hF1, hx1⟩ := hrel
    have hFr := hFr.tr hF1 (by decide)
    have hS_rt := hF1.at hT_rt (by decide) hS_rt
    obtain ⟨fa2, pl2, hQ2, hE2⟩ := hx1
    obtain ⟨hS_o, hT_rn, hT_rb, hT_rt, hQg_, hen_, hta_, hte_⟩ := RQk hTy hT_o hQ2
    obtain ⟨f_26, hS_rt⟩ := hTy.k27 hT_rt
    have eg_ := hQg_.symm.trans (af_i hS_rt)
    subst eg_
    have hN2 := fun (z : fa1 = 0) => NQ_fr hTy hT_rn hF1 (by decide) (by decide) (by decide) (hN1 z)
    have hB2 := fun (z : fa1 = 0) => BQ_fr hTy hT_rb hF1 (by decide) (by decide) (hB1 z)
    exact W.vret hx hb hr (fun t ht h9 => ⟨⟨S_24, rfl, ⟨hTy, hFr, ⟨_, _, _, _, _, _, ⟨hS_o, af_i hS_rt, by omega, by omega, by omega⟩, by rw [CL_4 hw_]; exact ERR_2 E2_b hE1 hE2, fun z => LNX_i 4 hw_ ⟨rfl, rfl, rfl⟩ hmd (hN2 (z_ERR hE2 z)) (hB2 (z_ERR hE2 z))⟩⟩, by rw [ht]; exact hW.1, va_K.moved h9.alike hK, hW.2.1⟩, hW.2.2.F ht⟩) hW.2.2.2.2 dX6_readLine_95
  by_cases hk_4_10 : tkv = 10
  · rw [hk_4_10]
    refine lv_tableIn (off := 75) (tgt := 79) hx hb dX6_readLine_4 (by decide) (by decide) rfl (by decide) ?_
    refine lv_aload_n hx hb dX6_readLine_79 rfl (lv_at hl 0 rfl) ?_
    refine pl_callv (va_runV (As := []) (rest := []) ⟨hx, hb, hml, hown, hT⟩ (q_readMode l dC dI cy L kap pr ad S s.heap.size o hTy hT_o g fa pl rn rb rt en mt sp ⟨hS_o, af_i hS_rt, by omega, by omega, by omega⟩ (by omega) mn kf hBq) (cwV 0 hT (gV w578 w580 ws19 w3 w581) rfl rfl rfl (by decide +kernel) ⟨(Nat.le_of_ble_eq_true rfl), (Nat.le_of_ble_eq_true rfl)⟩) ⟨pcS.blind, pl_recv hK hW hT_o.1 hS_o rfl, pcS.pre hW.1 hK hW.2.1 hN hSTR hW.2.2⟩ rfl rfl hl.1 rfl (lv_room (Nat.le_of_ble_eq_true rfl)) dX6_readLine_80 ⟨(Nat.le_of_ble_eq_true rfl), (Nat.le_of_ble_eq_true rfl)⟩) hW hA0 hA (fun S_27 H locs hrel hW => ?_)
    obtain ⟨hTy, hF1, hx1⟩ := hrel
    have hFr := hFr.tr hF1 (by decide)
    have hS_rt := hF1.at hT_rt (by decide) hS_rt
    obtain ⟨fa1, pl1, hQ1, hE1, hX1⟩ := hx1
    obtain ⟨hS_o, hT_rn, hT_rb, hT_rt, hQg_, hen_, hta_, hte_⟩ := RQk hTy hT_o hQ1
    obtain ⟨f_28, hS_rt⟩ := hTy.k27 hT_rt
    have eg_ := hQg_.symm.trans (af_i hS_rt)
    subst eg_
    have hw_ : tkc g en sp = 5 + 5 := (nI_eq (a := tkc g en sp) (b := 10) (by omega) (by omega)).mp (htkv.symm.trans hk_4_10)
    have hN1 := fun (_ : fa1 = 0) => NQ_fr hTy hT_rn hF1 (by decide) (by decide) (by decide) hNq
    have hB1 := fun (_ : fa1 = 0) => hX1
    refine lv_goto (tgt := 91) hx hb dX6_readLine_83 (by decide) ?_
    refine lv_aload_n hx hb dX6_readLine_91 rfl (lv_at hl 0 rfl) ?_
    refine pl_callv (va_runV (As := []) (rest := []) ⟨hx, hb, hml, hown, hT⟩ (q_readSemicolon l dC dI cy L kap pr ad S_27 H.size o hTy hT_o g fa1 pl1 rn rb rt en 1 (tke g en (tke g en sp)) ⟨hS_o, af_i hS_rt, by omega, by omega, by omega⟩ (by omega)) (cwV 0 hT (gV w582 w584 ws20 w3 w585) rfl rfl rfl (by decide +kernel) ⟨(Nat.le_of_ble_eq_true rfl), (Nat.le_of_ble_eq_true rfl)⟩) ⟨pcS.blind, pl_recv hK hW hT_o.1 hS_o rfl, pcS.pre hW.1 hK hW.2.1 hN hSTR hW.2.2⟩ rfl rfl hl.1 rfl (lv_room (Nat.le_of_ble_eq_true rfl)) dX6_readLine_92 ⟨(Nat.le_of_ble_eq_true rfl), (Nat.le_of_ble_eq_true rfl)⟩) hW hA0 hA (fun S_29 H locs hrel hW => ?_)
    obtain ⟨hTy, hF1, hx1⟩ := hrel
    have hFr := hFr.tr hF1 (by decide)
    have hS_rt := hF1.at hT_rt (by decide) hS_rt
    obtain ⟨fa2, pl2, hQ2, hE2⟩ := hx1
    obtain ⟨hS_o, hT_rn, hT_rb, hT_rt, hQg_, hen_, hta_, hte_⟩ := RQk hTy hT_o hQ2
    obtain ⟨f_31, hS_rt⟩ := hTy.k27 hT_rt
    have eg_ := hQg_.symm.trans (af_i hS_rt)
    subst eg_
    have hN2 := fun (z : fa1 = 0) => NQ_fr hTy hT_rn hF1 (by decide) (by decide) (by decide) (hN1 z)
    have hB2 := fun (z : fa1 = 0) => BQ_fr hTy hT_rb hF1 (by decide) (by decide) (hB1 z)
    exact W.vret hx hb hr (fun t ht h9 => ⟨⟨S_29, rfl, ⟨hTy, hFr, ⟨_, _, _, _, _, _, ⟨hS_o, af_i hS_rt, by omega, by omega, by omega⟩, by rw [CL_5 hw_ hmd]; exact ERR_2 (fe_b (by split; show 0 < 100; decide; show 1 < 100; decide) nbc_b) hE1 hE2, fun z => LNX_i 5 hw_ ⟨rfl, rfl, rfl⟩ rfl (hN2 (z_ERR hE2 z)) (hB2 (z_ERR hE2 z))⟩⟩, by rw [ht]; exact hW.1, va_K.moved h9.alike hK, hW.2.1⟩, hW.2.2.F ht⟩) hW.2.2.2.2 dX6_readLine_95
  refine lv_tableOut (tgt := 86) hx hb dX6_readLine_4 (swout_5_10 hk_4_5 hk_4_6 hk_4_7 hk_4_8 hk_4_9 hk_4_10) (by decide) ?_
  refine lv_aload_n hx hb dX6_readLine_86 rfl (lv_at hl 0 rfl) ?_
  refine lv_iconst (v := 1) hx hb dX6_readLine_87 (by decide) ?_
  refine pl_callv (va_runV (As := [.int 1]) (rest := []) ⟨hx, hb, hml, hown, hT⟩ (q_fail l dC dI cy L kap pr S s.heap.size o 1 hTy hT_o g fa pl rn rb rt en mt (nI (tkc g en sp)) (SK g en sp) (tke g en sp) ⟨hS_o, af_i hS_rt, by omega, by omega, by omega⟩) (cwV 1 hT (gV w500 w502 ws5 w3 w503) rfl rfl rfl (by decide +kernel) ⟨(Nat.le_of_ble_eq_true rfl), (Nat.le_of_ble_eq_true rfl)⟩) ⟨pcN.blind, pl_recv hK hW hT_o.1 hS_o rfl, pcN.pre hW.1 hK hW.2.1 hN (fun q h => absurd h List.not_mem_nil)⟩ rfl rfl hl.1 rfl (lv_room (Nat.le_of_ble_eq_true rfl)) dX6_readLine_88 ⟨(Nat.le_of_ble_eq_true rfl), (Nat.le_of_ble_eq_true rfl)⟩) hW hA0 hA (fun S_32 H locs hrel hW => ?_)
  obtain ⟨hTy, hF1, hx1⟩ := hrel
  have hFr := hFr.tr hF1 (by decide)
  have hS_rt := hF1.at hT_rt (by decide) hS_rt
  obtain ⟨fa33, pl33, hQ33, hfa33, hfb33⟩ := hx1
  obtain ⟨hS_o, hT_rn, hT_rb, hT_rt, hQg_, hen_, hta_, hte_⟩ := RQk hTy hT_o hQ33
  obtain ⟨f_34, hS_rt⟩ := hTy.k27 hT_rt
  have eg_ := hQg_.symm.trans (af_i hS_rt)
  subst eg_
  refine lv_aload_n hx hb dX6_readLine_91 rfl (lv_at hl 0 rfl) ?_
  refine pl_callv (va_runV (As := []) (rest := []) ⟨hx, hb, hml, hown, hT⟩ (q_readSemicolon l dC dI cy L kap pr ad S_32 H.size o hTy hT_o g fa33 pl33 rn rb rt en mt sp ⟨hS_o, af_i hS_rt, by omega, by omega, by omega⟩ (by omega)) (cwV 0 hT (gV w582 w584 ws20 w3 w585) rfl rfl rfl (by decide +kernel) ⟨(Nat.le_of_ble_eq_true rfl), (Nat.le_of_ble_eq_true rfl)⟩) ⟨pcS.blind, pl_recv hK hW hT_o.1 hS_o rfl, pcS.pre hW.1 hK hW.2.1 hN hSTR hW.2.2⟩ rfl rfl hl.1 rfl (lv_room (Nat.le_of_ble_eq_true rfl)) dX6_readLine_92 ⟨(Nat.le_of_ble_eq_true rfl), (Nat.le_of_ble_eq_true rfl)⟩) hW hA0 hA (fun S_35 H locs hrel hW => ?_)
  obtain ⟨hTy, hF1, hx1⟩ := hrel
  have hFr := hFr.tr hF1 (by decide)
  have hS_rt := hF1.at hT_rt (by decide) hS_rt
  have hnf_ : fa33 ≠ 0 := fun z => by by_cases q : fa = 0; rw [(hfb33 q).1] at z; exact absurd z (by decide); rw [(hfa33 q).1] at z; exact q z
  obtain ⟨fa2, pl2, hQ2, hE2⟩ := hx1
  obtain ⟨hS_o, hT_rn, hT_rb, hT_rt, hQg_, hen_, hta_, hte_⟩ := RQk hTy hT_o hQ2
  obtain ⟨f_37, hS_rt⟩ := hTy.k27 hT_rt
  have eg_ := hQg_.symm.trans (af_i hS_rt)
  subst eg_
  have hlt_ : tkc g en sp < 5 := by have q := tkc_le (g := g) (n := en) (p := sp); rcases (show tkc g en sp < 5 ∨ tkc g en sp = 5 ∨ tkc g en sp = 6 ∨ tkc g en sp = 7 ∨ tkc g en sp = 8 ∨ tkc g en sp = 9 ∨ tkc g en sp = 10 by omega) with z | z | z | z | z | z | z; exact z; exact absurd (htkv.trans (by rw [z]; rfl)) hk_4_5; exact absurd (htkv.trans (by rw [z]; rfl)) hk_4_6; exact absurd (htkv.trans (by rw [z]; rfl)) hk_4_7; exact absurd (htkv.trans (by rw [z]; rfl)) hk_4_8; exact absurd (htkv.trans (by rw [z]; rfl)) hk_4_9; exact absurd (htkv.trans (by rw [z]; rfl)) hk_4_10
  exact W.vret hx hb hr (fun t ht h9 => ⟨⟨S_35, rfl, ⟨hTy, hFr, ⟨_, _, _, _, _, _, ⟨hS_o, af_i hS_rt, by omega, by omega, by omega⟩, by rw [CL_d (s := ES g en sp) hlt_]; exact ERR_2 (show 1 < 100 from by decide) (ERR_f hfa33 hfb33 (show (1 : Nat) ≠ 0 from by decide)) hE2, fun z => absurd (z_ERR hE2 z) hnf_⟩⟩, by rw [ht]; exact hW.1, va_K.moved h9.alike hK, hW.2.1⟩, hW.2.2.F ht⟩) hW.2.2.2.2 dX6_readLine_95

