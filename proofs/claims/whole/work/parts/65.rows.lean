/-! ===== the class: a row of a treaty ===== -/
def gd (G : GS) (a : Nat) : Bool := decide (a + rowLeast G a ≤ rowEnd G a) && isByt G (rowEnd G a) 59
section TROWS
variable {E : VE} {σ s s' : Sg} {G : GS} {x : Nat} {P : PT} {post : Option Value → Sg → Prop} {N0 a t w g : Nat}
def RW (N0 : Nat) (s s' : Sg) (P : PT) (G : GS) (a t w g : Nat) : Prop := rdF N0 s s' ∧ TP N0 s' P G (if gd G a then rowEnd G a + 1 else rowEnd G a) ∧ TT N0 s' t w g (if gd G a then rowTells G a (rowEnd G a) else G)
theorem RWbad {e : Nat} (hg : gd G a = false) (he : rowEnd G a = e) (f : rdF N0 s s') (h : TP N0 s' P G e) (hT : TT N0 s' t w g G) : RW N0 s s' P G a t w g := by
  unfold RW
  rw [hg]
  subst he
  exact ⟨f, h, hT⟩
theorem RWgood {e : Nat} (hg : gd G a = true) (he : rowEnd G a = e) (f : rdF N0 s s') (h : TP N0 s' P G (e + 1)) (hT : TT N0 s' t w g (rowTells G a e)) : RW N0 s s' P G a t w g := by
  unfold RW
  rw [hg]
  subst he
  exact ⟨f, h, hT⟩
theorem bytNo {b c : Nat} (h : isByt G a b = true) (hne : b ≠ c) (hb : b < 256) (hc : c < 256) : isByt G a c = false := by
  have h1 := (of_decide_eq_true h).2
  exact decide_eq_false (fun z => hne ((nI_eq (by omega) (by omega)).mp (h1.symm.trans z.2)))
set_option maxRecDepth 100000 in
theorem k_readWeight (h : TP N0 s P G (a + 1)) (hT : TT N0 s t w g G) (hl : isByt G a 119 = true) (hp : ∀ s', RW N0 s s' P G a t w g → post (some (.int (b2 (gd G a = true)))) s') : MX7_readWeight E 2 0 0 [.ref (P 0 6), .ref t] s post := by
  refine MA.of RX7 "readWeight" [some (.ref (P 0 6)), some (.ref t), none, none] rfl rfl rfl (catAll rfl) (Nat.le_of_ble_eq_true rfl) rfl (fun X => ?_)
  have h60 := h.2.2.2.2.2.2.2
  have ha := (of_decide_eq_true hl).1
  have n108 := bytNo hl (c := 108) (by decide) (by decide) (by decide)
  have hRE : rowEnd G a = (if isDig G (a + 1) then (if isDig G (a + 2) then a + 3 else a + 2) else a + 1) := by unfold rowEnd; rw [if_neg (by rw [n108]; decide), if_pos hl]
  have hRL : rowLeast G a = 3 := by unfold rowLeast; rw [if_neg (by rw [n108]; decide)]
  cases d1 : isDig G (a + 1) with
  | false =>
    rw [d1, if_neg (by decide)] at hRE
    have hg : gd G a = false := by unfold gd; rw [hRE, hRL, decide_eq_false (by omega)]; rfl
    refine V.aload_n (i := 0) dX7_readWeight_0 rfl rfl ?_
    refine V.cv0D (ci := 7) dX7_readWeight_1 lk_X7_39 (by decide) rfl h.2.1 (k_digitN h (by omega) d1 ⟨rfl, rfl⟩) (by decide) (by decide) (Nat.le_of_ble_eq_true rfl) (Nat.le_of_ble_eq_true rfl) (Nat.le_of_ble_eq_true rfl) ?_
    refine V.istore_n2 (by decide) dX7_readWeight_4 ?_
    refine V.iload_n (i := 2) dX7_readWeight_5 rfl rfl ?_
    refine V.if_geF (tgt := 13) dX7_readWeight_6 rfl (by decide) ?_
    refine V.iconst dX7_readWeight_9 ic_m1 ?_
    refine V.goto (tgt := 17) dX7_readWeight_10 rfl ?_
    refine V.istore_n3 (by decide) dX7_readWeight_17 ?_
    refine V.iload_n (i := 3) dX7_readWeight_18 rfl rfl ?_
    refine V.if_ltT (tgt := 31) dX7_readWeight_19 rfl (by decide) ?_
    refine V.iconst dX7_readWeight_31 ic_0 ?_
    refine V.zret dX7_readWeight_32 (by decide) (Nat.le_of_ble_eq_true rfl) (Nat.le_of_ble_eq_true rfl) ?_
    exact b2_ret0 (by rw [hg]; decide) (hp _ (RWbad hg hRE rdF.rfl' h hT))
  | true =>
    rw [d1, if_pos rfl] at hRE
    have l1 := (dig_sub d1).2.1
    have hA := h.go
    have hTA : TT N0 (wI s 8 (P 0 6) 2 (nI (a + 1 + 1))) t w g G := hT.go
    cases d2 : isDig G (a + 2) with
    | false =>
      rw [d2, if_neg (by decide)] at hRE
      have hg : gd G a = false := by unfold gd; rw [hRE, hRL, decide_eq_false (by omega)]; rfl
      refine V.aload_n (i := 0) dX7_readWeight_0 rfl rfl ?_
      refine V.cv0D (ci := 7) dX7_readWeight_1 lk_X7_39 (by decide) rfl h.2.1 (k_digitY h d1 ⟨rfl, rfl⟩) (by decide) (by decide) (Nat.le_of_ble_eq_true rfl) (Nat.le_of_ble_eq_true rfl) (Nat.le_of_ble_eq_true rfl) ?_
      refine V.istore_n2 (by decide) dX7_readWeight_4 ?_
      refine V.iload_n (i := 2) dX7_readWeight_5 rfl rfl ?_
      refine V.if_geT (tgt := 13) dX7_readWeight_6 rfl (Int32.not_lt.mp (nI_pos (by omega))) ?_
      refine V.aload_n (i := 0) dX7_readWeight_13 rfl rfl ?_
      refine V.cv0D (ci := 7) dX7_readWeight_14 lk_X7_39 (by decide) rfl h.2.1 (k_digitN hA (by omega) d2 ⟨rfl, rfl⟩) (by decide) (by decide) (Nat.le_of_ble_eq_true rfl) (Nat.le_of_ble_eq_true rfl) (Nat.le_of_ble_eq_true rfl) ?_
      refine V.istore_n3 (by decide) dX7_readWeight_17 ?_
      refine V.iload_n (i := 3) dX7_readWeight_18 rfl rfl ?_
      refine V.if_ltT (tgt := 31) dX7_readWeight_19 rfl (by decide) ?_
      refine V.iconst dX7_readWeight_31 ic_0 ?_
      refine V.zret dX7_readWeight_32 (by decide) (Nat.le_of_ble_eq_true rfl) (Nat.le_of_ble_eq_true rfl) ?_
      exact b2_ret0 (by rw [hg]; decide) (hp _ (RWbad hg hRE rdF.at hA hTA))
    | true =>
      rw [d2, if_pos rfl] at hRE
      have l2 := (dig_sub d2).2.1
      have hB := hA.go
      have hTB : TT N0 (wI (wI s 8 (P 0 6) 2 (nI (a + 1 + 1))) 8 (P 0 6) 2 (nI (a + 1 + 1 + 1))) t w g G := hTA.go
      cases d3 : isByt G (a + 3) 59 with
      | false =>
        have hg : gd G a = false := by unfold gd; rw [hRE, d3]; simp
        refine V.aload_n (i := 0) dX7_readWeight_0 rfl rfl ?_
        refine V.cv0D (ci := 7) dX7_readWeight_1 lk_X7_39 (by decide) rfl h.2.1 (k_digitY h d1 ⟨rfl, rfl⟩) (by decide) (by decide) (Nat.le_of_ble_eq_true rfl) (Nat.le_of_ble_eq_true rfl) (Nat.le_of_ble_eq_true rfl) ?_
        refine V.istore_n2 (by decide) dX7_readWeight_4 ?_
        refine V.iload_n (i := 2) dX7_readWeight_5 rfl rfl ?_
        refine V.if_geT (tgt := 13) dX7_readWeight_6 rfl (Int32.not_lt.mp (nI_pos (by omega))) ?_
        refine V.aload_n (i := 0) dX7_readWeight_13 rfl rfl ?_
        refine V.cv0D (ci := 7) dX7_readWeight_14 lk_X7_39 (by decide) rfl h.2.1 (k_digitY hA d2 ⟨rfl, rfl⟩) (by decide) (by decide) (Nat.le_of_ble_eq_true rfl) (Nat.le_of_ble_eq_true rfl) (Nat.le_of_ble_eq_true rfl) ?_
        refine V.istore_n3 (by decide) dX7_readWeight_17 ?_
        refine V.iload_n (i := 3) dX7_readWeight_18 rfl rfl ?_
        refine V.if_ltF (tgt := 31) dX7_readWeight_19 rfl (nI_pos (show dgt G (a + 2) < 2 ^ 31 by omega)) ?_
        refine V.aload_n (i := 0) dX7_readWeight_22 rfl rfl ?_
        refine V.bipush dX7_readWeight_23 bc_59 ?_
        refine V.cv1D (ci := 7) dX7_readWeight_25 lk_X7_26 (by decide) rfl h.2.1 (k_takeN hB (by omega) 59 d3 ⟨rfl, rfl⟩) (by decide) (by decide) (Nat.le_of_ble_eq_true rfl) (Nat.le_of_ble_eq_true rfl) (Nat.le_of_ble_eq_true rfl) ?_
        refine V.ifb_neF (tgt := 33) dX7_readWeight_28 rfl (by show ¬ isByt G (a + 3) 59 = true; rw [d3]; decide) ?_
        refine V.iconst dX7_readWeight_31 ic_0 ?_
        refine V.zret dX7_readWeight_32 (by decide) (Nat.le_of_ble_eq_true rfl) (Nat.le_of_ble_eq_true rfl) ?_
        exact b2_ret0 (by rw [hg]; decide) (hp _ (RWbad hg hRE (rdF.at.trans rdF.at) hB hTB))
      | true =>
        have hg : gd G a = true := by unfold gd; rw [hRE, hRL, d3]; simp
        have hC := hB.go
        have hTC : TT N0 (wI (wI (wI s 8 (P 0 6) 2 (nI (a + 1 + 1))) 8 (P 0 6) 2 (nI (a + 1 + 1 + 1))) 8 (P 0 6) 2 (nI (a + 1 + 1 + 1 + 1))) t w g G := hTB.go
        have hRT : rowTells G a (a + 3) = u2 G 24 (10 * nTr G + dgt G (a + 1)) (nI (dgt G (a + 2))) := by
          unfold rowTells
          have e := (of_decide_eq_true hl).2
          rw [if_neg (by rw [e]; decide), if_pos e]
        refine V.aload_n (i := 0) dX7_readWeight_0 rfl rfl ?_
        refine V.cv0D (ci := 7) dX7_readWeight_1 lk_X7_39 (by decide) rfl h.2.1 (k_digitY h d1 ⟨rfl, rfl⟩) (by decide) (by decide) (Nat.le_of_ble_eq_true rfl) (Nat.le_of_ble_eq_true rfl) (Nat.le_of_ble_eq_true rfl) ?_
        refine V.istore_n2 (by decide) dX7_readWeight_4 ?_
        refine V.iload_n (i := 2) dX7_readWeight_5 rfl rfl ?_
        refine V.if_geT (tgt := 13) dX7_readWeight_6 rfl (Int32.not_lt.mp (nI_pos (by omega))) ?_
        refine V.aload_n (i := 0) dX7_readWeight_13 rfl rfl ?_
        refine V.cv0D (ci := 7) dX7_readWeight_14 lk_X7_39 (by decide) rfl h.2.1 (k_digitY hA d2 ⟨rfl, rfl⟩) (by decide) (by decide) (Nat.le_of_ble_eq_true rfl) (Nat.le_of_ble_eq_true rfl) (Nat.le_of_ble_eq_true rfl) ?_
        refine V.istore_n3 (by decide) dX7_readWeight_17 ?_
        refine V.iload_n (i := 3) dX7_readWeight_18 rfl rfl ?_
        refine V.if_ltF (tgt := 31) dX7_readWeight_19 rfl (nI_pos (show dgt G (a + 2) < 2 ^ 31 by omega)) ?_
        refine V.aload_n (i := 0) dX7_readWeight_22 rfl rfl ?_
        refine V.bipush dX7_readWeight_23 bc_59 ?_
        refine V.cv1D (ci := 7) dX7_readWeight_25 lk_X7_26 (by decide) rfl h.2.1 (k_takeY hB 59 (by decide) d3 ⟨rfl, rfl⟩) (by decide) (by decide) (Nat.le_of_ble_eq_true rfl) (Nat.le_of_ble_eq_true rfl) (Nat.le_of_ble_eq_true rfl) ?_
        refine V.ifb_neT (tgt := 33) dX7_readWeight_28 rfl (show isByt G (a + 3) 59 = true from d3) ?_
        refine V.aload_n (i := 1) dX7_readWeight_33 rfl rfl ?_
        refine V.getS dX7_readWeight_34 fl_X7_52 rfl hT.2.1 hTC.2.2.1 ?_
        refine V.iload_n (i := 2) dX7_readWeight_37 rfl rfl ?_
        refine V.iload_n (i := 3) dX7_readWeight_38 rfl rfl ?_
        refine V.iast (t := 23) dX7_readWeight_39 hTC.2.2.2.1 (by decide) rfl rfl (show _ < 10 from (show dgt G (a + 1) < 10 by omega)) (by decide) ?_
        refine V.iconst dX7_readWeight_40 ic_1 ?_
        refine V.zret dX7_readWeight_41 (by decide) (Nat.le_of_ble_eq_true rfl) (Nat.le_of_ble_eq_true rfl) ?_
        refine b2_ret1 hg (hp _ (RWgood hg hRE (((rdF.at.trans rdF.at).trans rdF.at).trans (rdF.new hT.1.2.1)) (hC.f (rdF.new hT.1.2.1) (by rw [sI_wI, if_neg (by simp)]; exact hC.2.2.2.2.2.1)) ?_))
        rw [hRT]
        refine ⟨hTC.1, hTC.2.1, hTC.2.2.1, hTC.2.2.2.1, hTC.2.2.2.2.1, hTC.2.2.2.2.2.1, ?_, fun k hk => ?_, fun k hk => ?_⟩
        · rw [sI_wI, if_neg (by simp)]; exact hTC.2.2.2.2.2.2.1
        · rw [sI_wI]
          show _ = u2 G 24 (10 * nTr G + dgt G (a + 1)) (nI (dgt G (a + 2))) 24 (10 * nTr G + k)
          rw [u2_at]
          by_cases q : k = dgt G (a + 1)
          · rw [if_pos ⟨rfl, rfl, q⟩, if_pos (by omega)]
          · rw [if_neg (fun z => q z.2.2), if_neg (by omega)]; exact hTC.2.2.2.2.2.2.2.1 k hk
        · rw [sI_wI, if_neg (by simp)]; exact hTC.2.2.2.2.2.2.2.2 k hk
set_option maxRecDepth 100000 in
theorem k_readLimit (h : TP N0 s P G (a + 1)) (hT : TT N0 s t w g G) (hl : isByt G a 108 = true) (hp : ∀ s', RW N0 s s' P G a t w g → post (some (.int (b2 (gd G a = true)))) s') : MX7_readLimit E 2 0 0 [.ref (P 0 6), .ref t] s post := by
  refine MA.of RX7 "readLimit" [some (.ref (P 0 6)), some (.ref t), none, none] rfl rfl rfl (catAll rfl) (Nat.le_of_ble_eq_true rfl) rfl (fun X => ?_)
  have h60 := h.2.2.2.2.2.2.2
  have ha := (of_decide_eq_true hl).1
  have hRE : rowEnd G a = (if isDig G (a + 1) then (if isDig G (a + 2) then a + 3 else a + 2) else a + 1) := by unfold rowEnd; rw [if_pos hl]
  have hRL : rowLeast G a = 2 := by unfold rowLeast; rw [if_pos hl]
  have hRT : ∀ e, rowTells G a e = u2 G 23 (nTr G) (if e = a + 3 then nI (10 * dgt G (a + 1) + dgt G (a + 2)) else nI (dgt G (a + 1))) := fun e => by
    unfold rowTells
    rw [if_pos (of_decide_eq_true hl).2]
  have fin : ∀ (s2 : Sg) (e : Nat) (v : Int32), rdF N0 s s2 → rowEnd G a = e → a + 2 ≤ e → isByt G e 59 = true → TP N0 s2 P G (e + 1) → TT N0 s2 t w g G → v = (if e = a + 3 then nI (10 * dgt G (a + 1) + dgt G (a + 2)) else nI (dgt G (a + 1))) → gd G a = true ∧ RW N0 s (wI s2 10 t 3 v) P G a t w g := by
    intro s2 e v f he h2 hb hP2 hT2 hv
    have hg : gd G a = true := by unfold gd; rw [he, hRL, hb, decide_eq_true h2]; rfl
    refine ⟨hg, RWgood hg he (f.trans (rdF.new hT.1.1)) (hP2.f (rdF.new hT.1.1) (by rw [sI_wI, if_neg (by simp)]; exact hP2.2.2.2.2.2.1)) ?_⟩
    rw [hRT]
    refine ⟨hT2.1, hT2.2.1, hT2.2.2.1, hT2.2.2.2.1, hT2.2.2.2.2.1, hT2.2.2.2.2.2.1, ?_, fun k hk => ?_, fun k hk => ?_⟩
    · rw [sI_wI, if_pos ⟨rfl, rfl, rfl⟩, hv]
      exact u2_eq.symm
    · rw [sI_wI, if_neg (by simp)]; exact hT2.2.2.2.2.2.2.2.1 k hk
    · rw [sI_wI, if_neg (by simp)]; exact hT2.2.2.2.2.2.2.2.2 k hk
  cases d1 : isDig G (a + 1) with
  | false =>
    rw [d1, if_neg (by decide)] at hRE
    have hg : gd G a = false := by unfold gd; rw [hRE, hRL, decide_eq_false (by omega)]; rfl
    refine V.aload_n (i := 0) dX7_readLimit_0 rfl rfl ?_
    refine V.cv0D (ci := 7) dX7_readLimit_1 lk_X7_39 (by decide) rfl h.2.1 (k_digitN h (by omega) d1 ⟨rfl, rfl⟩) (by decide) (by decide) (Nat.le_of_ble_eq_true rfl) (Nat.le_of_ble_eq_true rfl) (Nat.le_of_ble_eq_true rfl) ?_
    refine V.istore_n2 (by decide) dX7_readLimit_4 ?_
    refine V.iload_n (i := 2) dX7_readLimit_5 rfl rfl ?_
    refine V.if_geF (tgt := 11) dX7_readLimit_6 rfl (by decide) ?_
    refine V.iconst dX7_readLimit_9 ic_0 ?_
    refine V.zret dX7_readLimit_10 (by decide) (Nat.le_of_ble_eq_true rfl) (Nat.le_of_ble_eq_true rfl) ?_
    exact b2_ret0 (by rw [hg]; decide) (hp _ (RWbad hg hRE rdF.rfl' h hT))
  | true =>
    rw [d1, if_pos rfl] at hRE
    have l1 := (dig_sub d1).2.1
    have hA := h.go
    have hTA : TT N0 (wI s 8 (P 0 6) 2 (nI (a + 1 + 1))) t w g G := hT.go
    cases d2 : isDig G (a + 2) with
    | false =>
      rw [d2, if_neg (by decide)] at hRE
      cases d3 : isByt G (a + 2) 59 with
      | false =>
        have hg : gd G a = false := by unfold gd; rw [hRE, d3]; simp
        refine V.aload_n (i := 0) dX7_readLimit_0 rfl rfl ?_
        refine V.cv0D (ci := 7) dX7_readLimit_1 lk_X7_39 (by decide) rfl h.2.1 (k_digitY h d1 ⟨rfl, rfl⟩) (by decide) (by decide) (Nat.le_of_ble_eq_true rfl) (Nat.le_of_ble_eq_true rfl) (Nat.le_of_ble_eq_true rfl) ?_
        refine V.istore_n2 (by decide) dX7_readLimit_4 ?_
        refine V.iload_n (i := 2) dX7_readLimit_5 rfl rfl ?_
        refine V.if_geT (tgt := 11) dX7_readLimit_6 rfl (Int32.not_lt.mp (nI_pos (by omega))) ?_
        refine V.aload_n (i := 0) dX7_readLimit_11 rfl rfl ?_
        refine V.cv0D (ci := 7) dX7_readLimit_12 lk_X7_39 (by decide) rfl h.2.1 (k_digitN hA (by omega) d2 ⟨rfl, rfl⟩) (by decide) (by decide) (Nat.le_of_ble_eq_true rfl) (Nat.le_of_ble_eq_true rfl) (Nat.le_of_ble_eq_true rfl) ?_
        refine V.istore_n3 (by decide) dX7_readLimit_15 ?_
        refine V.iload_n (i := 3) dX7_readLimit_16 rfl rfl ?_
        refine V.if_ltT (tgt := 27) dX7_readLimit_17 rfl (by decide) ?_
        refine V.aload_n (i := 0) dX7_readLimit_27 rfl rfl ?_
        refine V.bipush dX7_readLimit_28 bc_59 ?_
        refine V.cv1D (ci := 7) dX7_readLimit_30 lk_X7_26 (by decide) rfl h.2.1 (k_takeN hA (by omega) 59 d3 ⟨rfl, rfl⟩) (by decide) (by decide) (Nat.le_of_ble_eq_true rfl) (Nat.le_of_ble_eq_true rfl) (Nat.le_of_ble_eq_true rfl) ?_
        refine V.ifb_neF (tgt := 38) dX7_readLimit_33 rfl (by show ¬ isByt G (a + 2) 59 = true; rw [d3]; decide) ?_
        refine V.iconst dX7_readLimit_36 ic_0 ?_
        refine V.zret dX7_readLimit_37 (by decide) (Nat.le_of_ble_eq_true rfl) (Nat.le_of_ble_eq_true rfl) ?_
        exact b2_ret0 (by rw [hg]; decide) (hp _ (RWbad hg hRE rdF.at hA hTA))
      | true =>
        have hq := fin _ (a + 2) _ (rdF.at.trans rdF.at) hRE (Nat.le_refl _) d3 hA.go hTA.go (if_neg (by omega)).symm
        refine V.aload_n (i := 0) dX7_readLimit_0 rfl rfl ?_
        refine V.cv0D (ci := 7) dX7_readLimit_1 lk_X7_39 (by decide) rfl h.2.1 (k_digitY h d1 ⟨rfl, rfl⟩) (by decide) (by decide) (Nat.le_of_ble_eq_true rfl) (Nat.le_of_ble_eq_true rfl) (Nat.le_of_ble_eq_true rfl) ?_
        refine V.istore_n2 (by decide) dX7_readLimit_4 ?_
        refine V.iload_n (i := 2) dX7_readLimit_5 rfl rfl ?_
        refine V.if_geT (tgt := 11) dX7_readLimit_6 rfl (Int32.not_lt.mp (nI_pos (by omega))) ?_
        refine V.aload_n (i := 0) dX7_readLimit_11 rfl rfl ?_
        refine V.cv0D (ci := 7) dX7_readLimit_12 lk_X7_39 (by decide) rfl h.2.1 (k_digitN hA (by omega) d2 ⟨rfl, rfl⟩) (by decide) (by decide) (Nat.le_of_ble_eq_true rfl) (Nat.le_of_ble_eq_true rfl) (Nat.le_of_ble_eq_true rfl) ?_
        refine V.istore_n3 (by decide) dX7_readLimit_15 ?_
        refine V.iload_n (i := 3) dX7_readLimit_16 rfl rfl ?_
        refine V.if_ltT (tgt := 27) dX7_readLimit_17 rfl (by decide) ?_
        refine V.aload_n (i := 0) dX7_readLimit_27 rfl rfl ?_
        refine V.bipush dX7_readLimit_28 bc_59 ?_
        refine V.cv1D (ci := 7) dX7_readLimit_30 lk_X7_26 (by decide) rfl h.2.1 (k_takeY hA 59 (by decide) d3 ⟨rfl, rfl⟩) (by decide) (by decide) (Nat.le_of_ble_eq_true rfl) (Nat.le_of_ble_eq_true rfl) (Nat.le_of_ble_eq_true rfl) ?_
        refine V.ifb_neT (tgt := 38) dX7_readLimit_33 rfl (show isByt G (a + 2) 59 = true from d3) ?_
        refine V.aload_n (i := 1) dX7_readLimit_38 rfl rfl ?_
        refine V.iload_n (i := 2) dX7_readLimit_39 rfl rfl ?_
        refine V.puti dX7_readLimit_40 fl_X7_55 rfl rfl hT.2.1 ?_
        refine V.iconst dX7_readLimit_43 ic_1 ?_
        refine V.zret dX7_readLimit_44 (by decide) (Nat.le_of_ble_eq_true rfl) (Nat.le_of_ble_eq_true rfl) ?_
        exact b2_ret1 hq.1 (hp _ hq.2)
    | true =>
      rw [d2, if_pos rfl] at hRE
      have l2 := (dig_sub d2).2.1
      have hB := hA.go
      have hTB : TT N0 (wI (wI s 8 (P 0 6) 2 (nI (a + 1 + 1))) 8 (P 0 6) 2 (nI (a + 1 + 1 + 1))) t w g G := hTA.go
      cases d3 : isByt G (a + 3) 59 with
      | false =>
        have hg : gd G a = false := by unfold gd; rw [hRE, d3]; simp
        refine V.aload_n (i := 0) dX7_readLimit_0 rfl rfl ?_
        refine V.cv0D (ci := 7) dX7_readLimit_1 lk_X7_39 (by decide) rfl h.2.1 (k_digitY h d1 ⟨rfl, rfl⟩) (by decide) (by decide) (Nat.le_of_ble_eq_true rfl) (Nat.le_of_ble_eq_true rfl) (Nat.le_of_ble_eq_true rfl) ?_
        refine V.istore_n2 (by decide) dX7_readLimit_4 ?_
        refine V.iload_n (i := 2) dX7_readLimit_5 rfl rfl ?_
        refine V.if_geT (tgt := 11) dX7_readLimit_6 rfl (Int32.not_lt.mp (nI_pos (by omega))) ?_
        refine V.aload_n (i := 0) dX7_readLimit_11 rfl rfl ?_
        refine V.cv0D (ci := 7) dX7_readLimit_12 lk_X7_39 (by decide) rfl h.2.1 (k_digitY hA d2 ⟨rfl, rfl⟩) (by decide) (by decide) (Nat.le_of_ble_eq_true rfl) (Nat.le_of_ble_eq_true rfl) (Nat.le_of_ble_eq_true rfl) ?_
        refine V.istore_n3 (by decide) dX7_readLimit_15 ?_
        refine V.iload_n (i := 3) dX7_readLimit_16 rfl rfl ?_
        refine V.if_ltF (tgt := 27) dX7_readLimit_17 rfl (nI_pos (show dgt G (a + 2) < 2 ^ 31 by omega)) ?_
        refine V.bipush dX7_readLimit_20 bc_10 ?_
        refine V.iload_n (i := 2) dX7_readLimit_22 rfl rfl ?_
        refine V.imul dX7_readLimit_23 ?_
        refine V.as _ (pk_mul _ _) ?_
        refine V.iload_n (i := 3) dX7_readLimit_24 rfl rfl ?_
        refine V.iadd dX7_readLimit_25 ?_
        refine V.as (nI (10 * dgt G (a + 1) + dgt G (a + 2))) (nI_add _ _) ?_
        refine V.istore_n2 (by decide) dX7_readLimit_26 ?_
        refine V.aload_n (i := 0) dX7_readLimit_27 rfl rfl ?_
        refine V.bipush dX7_readLimit_28 bc_59 ?_
        refine V.cv1D (ci := 7) dX7_readLimit_30 lk_X7_26 (by decide) rfl h.2.1 (k_takeN hB (by omega) 59 d3 ⟨rfl, rfl⟩) (by decide) (by decide) (Nat.le_of_ble_eq_true rfl) (Nat.le_of_ble_eq_true rfl) (Nat.le_of_ble_eq_true rfl) ?_
        refine V.ifb_neF (tgt := 38) dX7_readLimit_33 rfl (by show ¬ isByt G (a + 3) 59 = true; rw [d3]; decide) ?_
        refine V.iconst dX7_readLimit_36 ic_0 ?_
        refine V.zret dX7_readLimit_37 (by decide) (Nat.le_of_ble_eq_true rfl) (Nat.le_of_ble_eq_true rfl) ?_
        exact b2_ret0 (by rw [hg]; decide) (hp _ (RWbad hg hRE (rdF.at.trans rdF.at) hB hTB))
      | true =>
        have hq := fin _ (a + 3) _ ((rdF.at.trans rdF.at).trans rdF.at) hRE (by omega) d3 hB.go hTB.go (if_pos rfl).symm
        refine V.aload_n (i := 0) dX7_readLimit_0 rfl rfl ?_
        refine V.cv0D (ci := 7) dX7_readLimit_1 lk_X7_39 (by decide) rfl h.2.1 (k_digitY h d1 ⟨rfl, rfl⟩) (by decide) (by decide) (Nat.le_of_ble_eq_true rfl) (Nat.le_of_ble_eq_true rfl) (Nat.le_of_ble_eq_true rfl) ?_
        refine V.istore_n2 (by decide) dX7_readLimit_4 ?_
        refine V.iload_n (i := 2) dX7_readLimit_5 rfl rfl ?_
        refine V.if_geT (tgt := 11) dX7_readLimit_6 rfl (Int32.not_lt.mp (nI_pos (by omega))) ?_
        refine V.aload_n (i := 0) dX7_readLimit_11 rfl rfl ?_
        refine V.cv0D (ci := 7) dX7_readLimit_12 lk_X7_39 (by decide) rfl h.2.1 (k_digitY hA d2 ⟨rfl, rfl⟩) (by decide) (by decide) (Nat.le_of_ble_eq_true rfl) (Nat.le_of_ble_eq_true rfl) (Nat.le_of_ble_eq_true rfl) ?_
        refine V.istore_n3 (by decide) dX7_readLimit_15 ?_
        refine V.iload_n (i := 3) dX7_readLimit_16 rfl rfl ?_
        refine V.if_ltF (tgt := 27) dX7_readLimit_17 rfl (nI_pos (show dgt G (a + 2) < 2 ^ 31 by omega)) ?_
        refine V.bipush dX7_readLimit_20 bc_10 ?_
        refine V.iload_n (i := 2) dX7_readLimit_22 rfl rfl ?_
        refine V.imul dX7_readLimit_23 ?_
        refine V.as _ (pk_mul _ _) ?_
        refine V.iload_n (i := 3) dX7_readLimit_24 rfl rfl ?_
        refine V.iadd dX7_readLimit_25 ?_
        refine V.as (nI (10 * dgt G (a + 1) + dgt G (a + 2))) (nI_add _ _) ?_
        refine V.istore_n2 (by decide) dX7_readLimit_26 ?_
        refine V.aload_n (i := 0) dX7_readLimit_27 rfl rfl ?_
        refine V.bipush dX7_readLimit_28 bc_59 ?_
        refine V.cv1D (ci := 7) dX7_readLimit_30 lk_X7_26 (by decide) rfl h.2.1 (k_takeY hB 59 (by decide) d3 ⟨rfl, rfl⟩) (by decide) (by decide) (Nat.le_of_ble_eq_true rfl) (Nat.le_of_ble_eq_true rfl) (Nat.le_of_ble_eq_true rfl) ?_
        refine V.ifb_neT (tgt := 38) dX7_readLimit_33 rfl (show isByt G (a + 3) 59 = true from d3) ?_
        refine V.aload_n (i := 1) dX7_readLimit_38 rfl rfl ?_
        refine V.iload_n (i := 2) dX7_readLimit_39 rfl rfl ?_
        refine V.puti dX7_readLimit_40 fl_X7_55 rfl rfl hT.2.1 ?_
        refine V.iconst dX7_readLimit_43 ic_1 ?_
        refine V.zret dX7_readLimit_44 (by decide) (Nat.le_of_ble_eq_true rfl) (Nat.le_of_ble_eq_true rfl) ?_
        exact b2_ret1 hq.1 (hp _ hq.2)
theorem or0 (v : Int32) : v ||| nI 0 = v := by
  apply Int32.toBitVec_inj.1
  show v.toBitVec ||| BitVec.ofNat 32 0 = v.toBitVec
  exact BitVec.or_zero
/-- the graves of the first k kinds are told -/
def AG (N0 : Nat) (s s' : Sg) (t w g : Nat) (G : GS) (f of k : Nat) : Prop := rdF N0 s s' ∧ (∀ b j, sI s' 8 b j = sI s 8 b j) ∧ TT N0 s' t w g (tellK G (nTr G) f of k)
theorem tell_nTr (G : GS) (t f of k : Nat) : nTr (tellK G t f of k) = nTr G := nTr_row (tellK_row G t f of k 21 (by decide))
set_option maxRecDepth 100000 in
theorem k_addGrave {f of : Nat} (hT : TT N0 s t w g G) (hf : f < 10) (ho : of < 4) (hp : ∀ s', AG N0 s s' t w g G f of 4 → post none s') : MX9_addGrave E 3 0 0 [.ref t, .int (nI f), .int (nI of)] s post := by
  refine MA.of RX9 "addGrave" [some (.ref t), some (.int (nI f)), some (.int (nI of)), none] rfl rfl rfl (catAll rfl) (Nat.le_of_ble_eq_true rfl) rfl (fun X => ?_)
  have loop : ∀ m k s1, m + k = 4 → AG N0 s s1 t w g G f of k → V E X RX9 "addGrave" cX9_addGrave 4 none 3 0 0 (QM E X post 0 0) s1 0 0 2 [some (.ref t), some (.int (nI f)), some (.int (nI of)), some (.int (nI k))] [] := by
    intro m
    induction m with
    | zero =>
      intro k s1 hk hA
      rw [show k = 4 by omega] at hA ⊢
      refine V.iload_n (i := 3) dX9_addGrave_2 rfl rfl ?_
      refine V.iconst dX9_addGrave_3 ic_4 ?_
      refine V.icmp_geT (tgt := 33) dX9_addGrave_4 rfl (by decide) ?_
      refine V.vret dX9_addGrave_33 (Nat.le_of_ble_eq_true rfl) (Nat.le_of_ble_eq_true rfl) ?_
      exact hp _ hA
    | succ m ih =>
      intro k s1 hk hA
      obtain ⟨f1, f2, hT1⟩ := hA
      have hg := hT1.2.2.2.2.2.2.2.2 k (by omega)
      rw [tell_nTr, tellK_at G (nTr G) f of k k (Nat.le_refl _)] at hg
      have hrow : ∀ r, r ≠ 25 → tellK G (nTr G) f of (k + 1) r = tellK G (nTr G) f of k r := fun r hr => by rw [tellK_row _ _ _ _ _ _ hr, tellK_row _ _ _ _ _ _ hr]
      have hnx : ∀ j, tellK G (nTr G) f of (k + 1) 25 (4 * nTr G + j) = if j = k then (G 25 (4 * nTr G + k) ||| (if of = 0 ∨ of = k ∨ (of = 1 ∧ k = 2) then nI (2 ^ f) else nI 0)) else tellK G (nTr G) f of k 25 (4 * nTr G + j) := fun j => by
        show u2 (tellK G (nTr G) f of k) 25 (4 * nTr G + k) _ 25 (4 * nTr G + j) = _
        rw [u2_at]
        by_cases q : j = k
        · rw [if_pos (by omega), if_pos q]
        · rw [if_neg (by omega), if_neg q]
      have nx : ∀ s2 : Sg, rdF N0 s1 s2 → (∀ b j, sI s2 8 b j = sI s1 8 b j) → sI s2 10 t 3 = sI s1 10 t 3 → (∀ j, sI s2 23 w j = sI s1 23 w j) → (∀ j, j < 4 → sI s2 24 g j = tellK G (nTr G) f of (k + 1) 25 (4 * nTr G + j)) → AG N0 s s2 t w g G f of (k + 1) := by
        intro s2 r1 r2 r3 r4 r5
        refine ⟨f1.trans r1, fun b j => (r2 b j).trans (f2 b j), hT1.1, (r1.1 _).trans hT1.2.1, (r1.2.1 _ _ _).trans hT1.2.2.1, (r1.1 _).trans hT1.2.2.2.1, (r1.2.1 _ _ _).trans hT1.2.2.2.2.1, (r1.1 _).trans hT1.2.2.2.2.2.1, ?_, fun j hj => ?_, fun j hj => ?_⟩
        · rw [r3, hT1.2.2.2.2.2.2.1, tell_nTr, tell_nTr, hrow 23 (by decide)]
        · rw [r4, hT1.2.2.2.2.2.2.2.1 j hj, tell_nTr, tell_nTr, hrow 24 (by decide)]
        · rw [r5 j hj, tell_nTr]
      have hu : (nI of = nI 0 ∨ nI of = nI k ∨ (nI of = nI 1 ∧ nI k = nI 2)) ↔ (of = 0 ∨ of = k ∨ (of = 1 ∧ k = 2)) := by
        rw [nI_eq (by omega) (by decide), nI_eq (by omega) (by omega), nI_eq (by omega) (by decide), nI_eq (by omega) (by decide)]
      refine V.iload_n (i := 3) dX9_addGrave_2 rfl rfl ?_
      refine V.iconst dX9_addGrave_3 ic_4 ?_
      refine V.icmp_geF (tgt := 33) dX9_addGrave_4 rfl (nI_ge (by omega) (by decide)) ?_
      refine V.iload_n (i := 3) dX9_addGrave_7 rfl rfl ?_
      refine V.iload_n (i := 2) dX9_addGrave_8 rfl rfl ?_
      refine V.csn2D dX9_addGrave_9 lk_X9_25 (k_isUnder k (nI of) (by omega) ⟨rfl, rfl⟩) (by decide) (by decide) (Nat.le_of_ble_eq_true rfl) (Nat.le_of_ble_eq_true rfl) (Nat.le_of_ble_eq_true rfl) ?_
      refine V.ifb_eq (tgt := 27) dX9_addGrave_12 rfl (fun c12 => ?_) (fun c12 => ?_)
      · rw [hu] at c12
        refine V.iinc3 (by decide) dX9_addGrave_27 (inc1 _) ?_
        refine V.goto (tgt := 2) dX9_addGrave_30 rfl ?_
        first
        | exact ih (k + 1) s1 (by omega) (nx s1 rdF.rfl' (fun _ _ => rfl) rfl (fun _ => rfl) (fun j hj => by
            rw [hnx, if_neg c12, or0]
            have q := hT1.2.2.2.2.2.2.2.2 j hj
            rw [tell_nTr] at q
            by_cases e : j = k
            · rw [if_pos e, e]; exact hg
            · rw [if_neg e]; exact q))
        | exact ih (k + 1) _ (by omega) (nx _ (rdF.new hT1.1.2.2) (fun b j => by rw [sI_wI, if_neg (by simp)]) (by rw [sI_wI, if_neg (by simp)]) (fun j => by rw [sI_wI, if_neg (by simp)]) (fun j hj => by
            rw [hnx, if_pos c12, sI_wI]
            have q := hT1.2.2.2.2.2.2.2.2 j hj
            rw [tell_nTr] at q
            by_cases e : j = k
            · rw [if_pos ⟨rfl, rfl, e⟩, if_pos e]
            · rw [if_neg (fun z => e z.2.2), if_neg e]; exact q))
      · rw [hu] at c12
        refine V.aload_n (i := 0) dX9_addGrave_15 rfl rfl ?_
        refine V.getS dX9_addGrave_16 fl_X9_15 rfl hT1.2.1 hT1.2.2.2.2.1 ?_
        refine V.iload_n (i := 3) dX9_addGrave_19 rfl rfl ?_
        refine V.dup2 dX9_addGrave_20 rfl rfl ?_
        refine V.iald (t := 24) dX9_addGrave_21 hT1.2.2.2.2.2.1 (by decide) rfl rfl (show _ < 4 from (by omega)) (by decide) ?_
        refine V.as _ hg ?_
        refine V.iconst dX9_addGrave_22 ic_1 ?_
        refine V.iload_n (i := 1) dX9_addGrave_23 rfl rfl ?_
        refine V.ishl dX9_addGrave_24 ?_
        refine V.as _ (sh1 (by omega)) ?_
        refine V.ior dX9_addGrave_25 ?_
        refine V.iast (t := 24) dX9_addGrave_26 hT1.2.2.2.2.2.1 (by decide) rfl rfl (show _ < 4 from (by omega)) (by decide) ?_
        refine V.iinc3 (by decide) dX9_addGrave_27 (inc1 _) ?_
        refine V.goto (tgt := 2) dX9_addGrave_30 rfl ?_
        first
        | exact ih (k + 1) s1 (by omega) (nx s1 rdF.rfl' (fun _ _ => rfl) rfl (fun _ => rfl) (fun j hj => by
            rw [hnx, if_neg c12, or0]
            have q := hT1.2.2.2.2.2.2.2.2 j hj
            rw [tell_nTr] at q
            by_cases e : j = k
            · rw [if_pos e, e]; exact hg
            · rw [if_neg e]; exact q))
        | exact ih (k + 1) _ (by omega) (nx _ (rdF.new hT1.1.2.2) (fun b j => by rw [sI_wI, if_neg (by simp)]) (by rw [sI_wI, if_neg (by simp)]) (fun j => by rw [sI_wI, if_neg (by simp)]) (fun j hj => by
            rw [hnx, if_pos c12, sI_wI]
            have q := hT1.2.2.2.2.2.2.2.2 j hj
            rw [tell_nTr] at q
            by_cases e : j = k
            · rw [if_pos ⟨rfl, rfl, e⟩, if_pos e]
            · rw [if_neg (fun z => e z.2.2), if_neg e]; exact q))
  refine V.iconst dX9_addGrave_0 ic_0 ?_
  refine V.istore_n3 (by decide) dX9_addGrave_1 ?_
  exact loop 4 0 s rfl ⟨rdF.rfl', fun _ _ => rfl, hT⟩
set_option maxRecDepth 100000 in
theorem k_readGrave (h : TP N0 s P G (a + 1)) (hT : TT N0 s t w g G) (hl : isByt G a 103 = true) (hp : ∀ s', RW N0 s s' P G a t w g → post (some (.int (b2 (gd G a = true)))) s') : MX7_readGrave E 4 0 0 [.ref (P 0 6), .ref t] s post := by
  refine MA.of RX7 "readGrave" [some (.ref (P 0 6)), some (.ref t), none, none] rfl rfl rfl (catAll rfl) (Nat.le_of_ble_eq_true rfl) rfl (fun X => ?_)
  have h60 := h.2.2.2.2.2.2.2
  have ha := (of_decide_eq_true hl).1
  have n108 := bytNo hl (c := 108) (by decide) (by decide) (by decide)
  have n119 := bytNo hl (c := 119) (by decide) (by decide) (by decide)
  have hRE : rowEnd G a = (if isDig G (a + 1) then (if kAt G (a + 2) = none then a + 2 else a + 3) else a + 1) := by unfold rowEnd; rw [if_neg (by rw [n108]; decide), if_neg (by rw [n119]; decide), if_pos hl]
  have hRL : rowLeast G a = 3 := by unfold rowLeast; rw [if_neg (by rw [n108]; decide)]
  cases d1 : isDig G (a + 1) with
  | false =>
    rw [d1, if_neg (by decide)] at hRE
    have hg : gd G a = false := by unfold gd; rw [hRE, hRL, decide_eq_false (by omega)]; rfl
    refine V.aload_n (i := 0) dX7_readGrave_0 rfl rfl ?_
    refine V.cv0D (ci := 7) dX7_readGrave_1 lk_X7_39 (by decide) rfl h.2.1 (k_digitN h (by omega) d1 ⟨rfl, rfl⟩) (by decide) (by decide) (Nat.le_of_ble_eq_true rfl) (Nat.le_of_ble_eq_true rfl) (Nat.le_of_ble_eq_true rfl) ?_
    refine V.istore_n2 (by decide) dX7_readGrave_4 ?_
    refine V.iload_n (i := 2) dX7_readGrave_5 rfl rfl ?_
    refine V.if_geF (tgt := 13) dX7_readGrave_6 rfl (by decide) ?_
    refine V.iconst dX7_readGrave_9 ic_m1 ?_
    refine V.goto (tgt := 17) dX7_readGrave_10 rfl ?_
    refine V.istore_n3 (by decide) dX7_readGrave_17 ?_
    refine V.iload_n (i := 3) dX7_readGrave_18 rfl rfl ?_
    refine V.if_ltT (tgt := 31) dX7_readGrave_19 rfl (by decide) ?_
    refine V.iconst dX7_readGrave_31 ic_0 ?_
    refine V.zret dX7_readGrave_32 (by decide) (Nat.le_of_ble_eq_true rfl) (Nat.le_of_ble_eq_true rfl) ?_
    exact b2_ret0 (by rw [hg]; decide) (hp _ (RWbad hg hRE rdF.rfl' h hT))
  | true =>
    rw [d1, if_pos rfl] at hRE
    have l1 := (dig_sub d1).2.1
    have hA := h.go
    have hTA : TT N0 (wI s 8 (P 0 6) 2 (nI (a + 1 + 1))) t w g G := hT.go
    cases d2 : kAt G (a + 2) with
    | none =>
      rw [d2, if_pos rfl] at hRE
      have hg : gd G a = false := by unfold gd; rw [hRE, hRL, decide_eq_false (by omega)]; rfl
      refine V.aload_n (i := 0) dX7_readGrave_0 rfl rfl ?_
      refine V.cv0D (ci := 7) dX7_readGrave_1 lk_X7_39 (by decide) rfl h.2.1 (k_digitY h d1 ⟨rfl, rfl⟩) (by decide) (by decide) (Nat.le_of_ble_eq_true rfl) (Nat.le_of_ble_eq_true rfl) (Nat.le_of_ble_eq_true rfl) ?_
      refine V.istore_n2 (by decide) dX7_readGrave_4 ?_
      refine V.iload_n (i := 2) dX7_readGrave_5 rfl rfl ?_
      refine V.if_geT (tgt := 13) dX7_readGrave_6 rfl (Int32.not_lt.mp (nI_pos (by omega))) ?_
      refine V.aload_n (i := 0) dX7_readGrave_13 rfl rfl ?_
      refine V.cv0D (ci := 7) dX7_readGrave_14 lk_X7_43 (by decide) rfl h.2.1 (k_kindN hA (by omega) d2 ⟨rfl, rfl⟩) (by decide) (by decide) (Nat.le_of_ble_eq_true rfl) (Nat.le_of_ble_eq_true rfl) (Nat.le_of_ble_eq_true rfl) ?_
      refine V.istore_n3 (by decide) dX7_readGrave_17 ?_
      refine V.iload_n (i := 3) dX7_readGrave_18 rfl rfl ?_
      refine V.if_ltT (tgt := 31) dX7_readGrave_19 rfl (by decide) ?_
      refine V.iconst dX7_readGrave_31 ic_0 ?_
      refine V.zret dX7_readGrave_32 (by decide) (Nat.le_of_ble_eq_true rfl) (Nat.le_of_ble_eq_true rfl) ?_
      exact b2_ret0 (by rw [hg]; decide) (hp _ (RWbad hg hRE rdF.at hA hTA))
    | some kd =>
      rw [d2, if_neg (by simp)] at hRE
      have l2 := kAt_lt d2
      have hB := hA.go
      have hTB : TT N0 (wI (wI s 8 (P 0 6) 2 (nI (a + 1 + 1))) 8 (P 0 6) 2 (nI (a + 1 + 1 + 1))) t w g G := hTA.go
      cases d3 : isByt G (a + 3) 59 with
      | false =>
        have hg : gd G a = false := by unfold gd; rw [hRE, d3]; simp
        refine V.aload_n (i := 0) dX7_readGrave_0 rfl rfl ?_
        refine V.cv0D (ci := 7) dX7_readGrave_1 lk_X7_39 (by decide) rfl h.2.1 (k_digitY h d1 ⟨rfl, rfl⟩) (by decide) (by decide) (Nat.le_of_ble_eq_true rfl) (Nat.le_of_ble_eq_true rfl) (Nat.le_of_ble_eq_true rfl) ?_
        refine V.istore_n2 (by decide) dX7_readGrave_4 ?_
        refine V.iload_n (i := 2) dX7_readGrave_5 rfl rfl ?_
        refine V.if_geT (tgt := 13) dX7_readGrave_6 rfl (Int32.not_lt.mp (nI_pos (by omega))) ?_
        refine V.aload_n (i := 0) dX7_readGrave_13 rfl rfl ?_
        refine V.cv0D (ci := 7) dX7_readGrave_14 lk_X7_43 (by decide) rfl h.2.1 (k_kindY hA d2 ⟨rfl, rfl⟩) (by decide) (by decide) (Nat.le_of_ble_eq_true rfl) (Nat.le_of_ble_eq_true rfl) (Nat.le_of_ble_eq_true rfl) ?_
        refine V.istore_n3 (by decide) dX7_readGrave_17 ?_
        refine V.iload_n (i := 3) dX7_readGrave_18 rfl rfl ?_
        refine V.if_ltF (tgt := 31) dX7_readGrave_19 rfl (nI_pos (show kd < 2 ^ 31 by omega)) ?_
        refine V.aload_n (i := 0) dX7_readGrave_22 rfl rfl ?_
        refine V.bipush dX7_readGrave_23 bc_59 ?_
        refine V.cv1D (ci := 7) dX7_readGrave_25 lk_X7_26 (by decide) rfl h.2.1 (k_takeN hB (by omega) 59 d3 ⟨rfl, rfl⟩) (by decide) (by decide) (Nat.le_of_ble_eq_true rfl) (Nat.le_of_ble_eq_true rfl) (Nat.le_of_ble_eq_true rfl) ?_
        refine V.ifb_neF (tgt := 33) dX7_readGrave_28 rfl (by show ¬ isByt G (a + 3) 59 = true; rw [d3]; decide) ?_
        refine V.iconst dX7_readGrave_31 ic_0 ?_
        refine V.zret dX7_readGrave_32 (by decide) (Nat.le_of_ble_eq_true rfl) (Nat.le_of_ble_eq_true rfl) ?_
        exact b2_ret0 (by rw [hg]; decide) (hp _ (RWbad hg hRE (rdF.at.trans rdF.at) hB hTB))
      | true =>
        have hg : gd G a = true := by unfold gd; rw [hRE, hRL, d3]; simp
        have hC := hB.go
        have hTC : TT N0 (wI (wI (wI s 8 (P 0 6) 2 (nI (a + 1 + 1))) 8 (P 0 6) 2 (nI (a + 1 + 1 + 1))) 8 (P 0 6) 2 (nI (a + 1 + 1 + 1 + 1))) t w g G := hTB.go
        have hRT : rowTells G a (a + 3) = tellK G (nTr G) (dgt G (a + 1)) kd 4 := by
          unfold rowTells
          have e := (of_decide_eq_true hl).2
          rw [if_neg (by rw [e]; decide), if_neg (by rw [e]; decide), d2]
          rfl
        refine V.aload_n (i := 0) dX7_readGrave_0 rfl rfl ?_
        refine V.cv0D (ci := 7) dX7_readGrave_1 lk_X7_39 (by decide) rfl h.2.1 (k_digitY h d1 ⟨rfl, rfl⟩) (by decide) (by decide) (Nat.le_of_ble_eq_true rfl) (Nat.le_of_ble_eq_true rfl) (Nat.le_of_ble_eq_true rfl) ?_
        refine V.istore_n2 (by decide) dX7_readGrave_4 ?_
        refine V.iload_n (i := 2) dX7_readGrave_5 rfl rfl ?_
        refine V.if_geT (tgt := 13) dX7_readGrave_6 rfl (Int32.not_lt.mp (nI_pos (by omega))) ?_
        refine V.aload_n (i := 0) dX7_readGrave_13 rfl rfl ?_
        refine V.cv0D (ci := 7) dX7_readGrave_14 lk_X7_43 (by decide) rfl h.2.1 (k_kindY hA d2 ⟨rfl, rfl⟩) (by decide) (by decide) (Nat.le_of_ble_eq_true rfl) (Nat.le_of_ble_eq_true rfl) (Nat.le_of_ble_eq_true rfl) ?_
        refine V.istore_n3 (by decide) dX7_readGrave_17 ?_
        refine V.iload_n (i := 3) dX7_readGrave_18 rfl rfl ?_
        refine V.if_ltF (tgt := 31) dX7_readGrave_19 rfl (nI_pos (show kd < 2 ^ 31 by omega)) ?_
        refine V.aload_n (i := 0) dX7_readGrave_22 rfl rfl ?_
        refine V.bipush dX7_readGrave_23 bc_59 ?_
        refine V.cv1D (ci := 7) dX7_readGrave_25 lk_X7_26 (by decide) rfl h.2.1 (k_takeY hB 59 (by decide) d3 ⟨rfl, rfl⟩) (by decide) (by decide) (Nat.le_of_ble_eq_true rfl) (Nat.le_of_ble_eq_true rfl) (Nat.le_of_ble_eq_true rfl) ?_
        refine V.ifb_neT (tgt := 33) dX7_readGrave_28 rfl (show isByt G (a + 3) 59 = true from d3) ?_
        refine V.aload_n (i := 1) dX7_readGrave_33 rfl rfl ?_
        refine V.iload_n (i := 2) dX7_readGrave_34 rfl rfl ?_
        refine V.iload_n (i := 3) dX7_readGrave_35 rfl rfl ?_
        refine V.cv2v (ci := 9) dX7_readGrave_36 lk_X7_46 (by decide) rfl hT.2.1 (k_addGrave hTC (show dgt G (a + 1) < 10 by omega) l2.1 (fun s h => ⟨rfl, h⟩)) (by decide) (by decide) (Nat.le_of_ble_eq_true rfl) (Nat.le_of_ble_eq_true rfl) (Nat.le_of_ble_eq_true rfl) (fun s36 h36 => ?_)
        refine V.iconst dX7_readGrave_39 ic_1 ?_
        refine V.zret dX7_readGrave_40 (by decide) (Nat.le_of_ble_eq_true rfl) (Nat.le_of_ble_eq_true rfl) ?_
        exact b2_ret1 hg (hp _ (RWgood hg hRE (((rdF.at.trans rdF.at).trans rdF.at).trans h36.1) (hC.f h36.1 ((h36.2.1 _ _).trans hC.2.2.2.2.2.1)) (by rw [hRT]; exact h36.2.2)))
theorem gd_none (h1 : isByt G a 108 = false) (h2 : isByt G a 119 = false) (h3 : isByt G a 103 = false) : rowEnd G a = a ∧ gd G a = false := by
  have e : rowEnd G a = a := by unfold rowEnd; rw [h1, h2, h3]; simp
  refine ⟨e, ?_⟩
  unfold gd rowLeast
  rw [e, decide_eq_false (by split <;> omega)]
  rfl
set_option maxRecDepth 100000 in
theorem k_readRow (h : TP N0 s P G a) (ha : a < nTp G) (hT : TT N0 s t w g G) (hp : ∀ s', RW N0 s s' P G a t w g → post (some (.int (b2 (gd G a = true)))) s') : MX7_readRow E 5 0 0 [.ref (P 0 6), .ref t] s post := by
  refine MA.of RX7 "readRow" [some (.ref (P 0 6)), some (.ref t)] rfl rfl rfl (catAll rfl) (Nat.le_of_ble_eq_true rfl) rfl (fun X => ?_)
  have h60 := h.2.2.2.2.2.2.2
  have sw : ∀ s', RW N0 (wI s 8 (P 0 6) 2 (nI (a + 1))) s' P G a t w g → post (some (.int (b2 (gd G a = true)))) s' := fun s' q => hp s' ⟨rdF.at.trans q.1, q.2⟩
  cases q1 : isByt G a 103 with
  | true =>
    refine V.aload_n (i := 0) dX7_readRow_0 rfl rfl ?_
    refine V.bipush dX7_readRow_1 bc_103 ?_
    refine V.cv1D (ci := 7) dX7_readRow_3 lk_X7_26 (by decide) rfl h.2.1 (k_takeY h 103 (by decide) q1 ⟨rfl, rfl⟩) (by decide) (by decide) (Nat.le_of_ble_eq_true rfl) (Nat.le_of_ble_eq_true rfl) (Nat.le_of_ble_eq_true rfl) ?_
    refine V.ifb_eqF (tgt := 15) dX7_readRow_6 rfl q1 ?_
    refine V.aload_n (i := 0) dX7_readRow_9 rfl rfl ?_
    refine V.aload_n (i := 1) dX7_readRow_10 rfl rfl ?_
    refine V.cv1s (ci := 7) dX7_readRow_11 lk_X7_30 (by decide) rfl h.2.1 (k_readGrave h.go (hT.go (b := P 0 6) (v := nI (a + 1))) q1 (fun s h => ⟨rfl, h⟩)) (by decide) (by decide) (Nat.le_of_ble_eq_true rfl) (Nat.le_of_ble_eq_true rfl) (Nat.le_of_ble_eq_true rfl) (fun s11 h11 => ?_)
    refine V.zret dX7_readRow_14 (b2_01 _) (Nat.le_of_ble_eq_true rfl) (Nat.le_of_ble_eq_true rfl) ?_
    exact sw _ h11
  | false =>
    cases q2 : isByt G a 119 with
    | true =>
      refine V.aload_n (i := 0) dX7_readRow_0 rfl rfl ?_
      refine V.bipush dX7_readRow_1 bc_103 ?_
      refine V.cv1D (ci := 7) dX7_readRow_3 lk_X7_26 (by decide) rfl h.2.1 (k_takeN h (by omega) 103 q1 ⟨rfl, rfl⟩) (by decide) (by decide) (Nat.le_of_ble_eq_true rfl) (Nat.le_of_ble_eq_true rfl) (Nat.le_of_ble_eq_true rfl) ?_
      refine V.ifb_eqT (tgt := 15) dX7_readRow_6 rfl (by rw [q1]; decide) ?_
      refine V.aload_n (i := 0) dX7_readRow_15 rfl rfl ?_
      refine V.bipush dX7_readRow_16 bc_119 ?_
      refine V.cv1D (ci := 7) dX7_readRow_18 lk_X7_26 (by decide) rfl h.2.1 (k_takeY h 119 (by decide) q2 ⟨rfl, rfl⟩) (by decide) (by decide) (Nat.le_of_ble_eq_true rfl) (Nat.le_of_ble_eq_true rfl) (Nat.le_of_ble_eq_true rfl) ?_
      refine V.ifb_eqF (tgt := 30) dX7_readRow_21 rfl q2 ?_
      refine V.aload_n (i := 0) dX7_readRow_24 rfl rfl ?_
      refine V.aload_n (i := 1) dX7_readRow_25 rfl rfl ?_
      refine V.cv1s (ci := 7) dX7_readRow_26 lk_X7_33 (by decide) rfl h.2.1 (k_readWeight h.go (hT.go (b := P 0 6) (v := nI (a + 1))) q2 (fun s h => ⟨rfl, h⟩)) (by decide) (by decide) (Nat.le_of_ble_eq_true rfl) (Nat.le_of_ble_eq_true rfl) (Nat.le_of_ble_eq_true rfl) (fun s26 h26 => ?_)
      refine V.zret dX7_readRow_29 (b2_01 _) (Nat.le_of_ble_eq_true rfl) (Nat.le_of_ble_eq_true rfl) ?_
      exact sw _ h26
    | false =>
      cases q3 : isByt G a 108 with
      | true =>
        refine V.aload_n (i := 0) dX7_readRow_0 rfl rfl ?_
        refine V.bipush dX7_readRow_1 bc_103 ?_
        refine V.cv1D (ci := 7) dX7_readRow_3 lk_X7_26 (by decide) rfl h.2.1 (k_takeN h (by omega) 103 q1 ⟨rfl, rfl⟩) (by decide) (by decide) (Nat.le_of_ble_eq_true rfl) (Nat.le_of_ble_eq_true rfl) (Nat.le_of_ble_eq_true rfl) ?_
        refine V.ifb_eqT (tgt := 15) dX7_readRow_6 rfl (by rw [q1]; decide) ?_
        refine V.aload_n (i := 0) dX7_readRow_15 rfl rfl ?_
        refine V.bipush dX7_readRow_16 bc_119 ?_
        refine V.cv1D (ci := 7) dX7_readRow_18 lk_X7_26 (by decide) rfl h.2.1 (k_takeN h (by omega) 119 q2 ⟨rfl, rfl⟩) (by decide) (by decide) (Nat.le_of_ble_eq_true rfl) (Nat.le_of_ble_eq_true rfl) (Nat.le_of_ble_eq_true rfl) ?_
        refine V.ifb_eqT (tgt := 30) dX7_readRow_21 rfl (by rw [q2]; decide) ?_
        refine V.aload_n (i := 0) dX7_readRow_30 rfl rfl ?_
        refine V.bipush dX7_readRow_31 bc_108 ?_
        refine V.cv1D (ci := 7) dX7_readRow_33 lk_X7_26 (by decide) rfl h.2.1 (k_takeY h 108 (by decide) q3 ⟨rfl, rfl⟩) (by decide) (by decide) (Nat.le_of_ble_eq_true rfl) (Nat.le_of_ble_eq_true rfl) (Nat.le_of_ble_eq_true rfl) ?_
        refine V.ifb_eqF (tgt := 51) dX7_readRow_36 rfl q3 ?_
        refine V.aload_n (i := 0) dX7_readRow_39 rfl rfl ?_
        refine V.aload_n (i := 1) dX7_readRow_40 rfl rfl ?_
        refine V.cv1s (ci := 7) dX7_readRow_41 lk_X7_36 (by decide) rfl h.2.1 (k_readLimit h.go (hT.go (b := P 0 6) (v := nI (a + 1))) q3 (fun s h => ⟨rfl, h⟩)) (by decide) (by decide) (Nat.le_of_ble_eq_true rfl) (Nat.le_of_ble_eq_true rfl) (Nat.le_of_ble_eq_true rfl) (fun s41 h41 => ?_)
        refine V.ifb_eq (tgt := 51) dX7_readRow_44 rfl (fun c44 => ?_) (fun c44 => ?_)
        · refine V.iconst dX7_readRow_51 ic_0 ?_
          refine V.zret dX7_readRow_52 (by decide) (Nat.le_of_ble_eq_true rfl) (Nat.le_of_ble_eq_true rfl) ?_
          first | exact b2_ret1 c44 (sw _ h41) | exact b2_ret0 c44 (sw _ h41)
        · refine V.iconst dX7_readRow_47 ic_1 ?_
          refine V.goto (tgt := 52) dX7_readRow_48 rfl ?_
          refine V.zret dX7_readRow_52 (by decide) (Nat.le_of_ble_eq_true rfl) (Nat.le_of_ble_eq_true rfl) ?_
          first | exact b2_ret1 c44 (sw _ h41) | exact b2_ret0 c44 (sw _ h41)
      | false =>
        have hn := gd_none q3 q2 q1
        refine V.aload_n (i := 0) dX7_readRow_0 rfl rfl ?_
        refine V.bipush dX7_readRow_1 bc_103 ?_
        refine V.cv1D (ci := 7) dX7_readRow_3 lk_X7_26 (by decide) rfl h.2.1 (k_takeN h (by omega) 103 q1 ⟨rfl, rfl⟩) (by decide) (by decide) (Nat.le_of_ble_eq_true rfl) (Nat.le_of_ble_eq_true rfl) (Nat.le_of_ble_eq_true rfl) ?_
        refine V.ifb_eqT (tgt := 15) dX7_readRow_6 rfl (by rw [q1]; decide) ?_
        refine V.aload_n (i := 0) dX7_readRow_15 rfl rfl ?_
        refine V.bipush dX7_readRow_16 bc_119 ?_
        refine V.cv1D (ci := 7) dX7_readRow_18 lk_X7_26 (by decide) rfl h.2.1 (k_takeN h (by omega) 119 q2 ⟨rfl, rfl⟩) (by decide) (by decide) (Nat.le_of_ble_eq_true rfl) (Nat.le_of_ble_eq_true rfl) (Nat.le_of_ble_eq_true rfl) ?_
        refine V.ifb_eqT (tgt := 30) dX7_readRow_21 rfl (by rw [q2]; decide) ?_
        refine V.aload_n (i := 0) dX7_readRow_30 rfl rfl ?_
        refine V.bipush dX7_readRow_31 bc_108 ?_
        refine V.cv1D (ci := 7) dX7_readRow_33 lk_X7_26 (by decide) rfl h.2.1 (k_takeN h (by omega) 108 q3 ⟨rfl, rfl⟩) (by decide) (by decide) (Nat.le_of_ble_eq_true rfl) (Nat.le_of_ble_eq_true rfl) (Nat.le_of_ble_eq_true rfl) ?_
        refine V.ifb_eqT (tgt := 51) dX7_readRow_36 rfl (by rw [q3]; decide) ?_
        refine V.iconst dX7_readRow_51 ic_0 ?_
        refine V.zret dX7_readRow_52 (by decide) (Nat.le_of_ble_eq_true rfl) (Nat.le_of_ble_eq_true rfl) ?_
        exact b2_ret0 (by rw [hn.2]; decide) (hp _ (RWbad hn.2 hn.1 rdF.rfl' h hT))
end TROWS

