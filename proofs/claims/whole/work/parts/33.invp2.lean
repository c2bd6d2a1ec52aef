/-! ===== the invariant: treaties, looks, the rest ===== -/
section INVP2
variable {G : GS}
/-- rows of treaties and scratch rows don't matter -/
def tRow (r : Nat) : Bool := decide (r = 19 ∨ r = 20 ∨ r = 21 ∨ r = 22 ∨ r = 23 ∨ r = 24 ∨ r = 25 ∨ 40 ≤ r)
theorem Inv.rows {G' : GS} (h : Inv G) (e : ∀ r, tRow r = false → G' r = G r) (tp : G' 19 0 = nI (nTp G') ∧ nTp G' ≤ 60) (tr : G' 21 0 = nI (nTr G') ∧ nTr G' ≤ 6) : Inv G' :=
  ⟨(by have q := h.day; simpa only [I_day, nSh, nCh, nWd, nCa, nTp, nTr, nLk, nWt, gN, e 0 (by decide)] using q),
    (by have q := h.shN; simpa only [I_shN, nSh, nCh, nWd, nCa, nTp, nTr, nLk, nWt, gN, e 1 (by decide)] using q),
    (by have q := h.kind; simpa only [I_kind, nSh, nCh, nWd, nCa, nTp, nTr, nLk, nWt, gN, e 1 (by decide), e 2 (by decide)] using q),
    (by have q := h.built; simpa only [I_built, nSh, nCh, nWd, nCa, nTp, nTr, nLk, nWt, gN, e 0 (by decide), e 1 (by decide), e 4 (by decide)] using q),
    (by have q := h.came; simpa only [I_came, nSh, nCh, nWd, nCa, nTp, nTr, nLk, nWt, gN, e 1 (by decide), e 5 (by decide)] using q),
    (by have q := h.chN; simpa only [I_chN, nSh, nCh, nWd, nCa, nTp, nTr, nLk, nWt, gN, e 6 (by decide)] using q),
    (by have q := h.chg; simpa only [I_chg, nSh, nCh, nWd, nCa, nTp, nTr, nLk, nWt, gN, e 6 (by decide), e 7 (by decide), e 9 (by decide)] using q),
    (by have q := h.chS; simpa only [I_chS, nSh, nCh, nWd, nCa, nTp, nTr, nLk, nWt, gN, e 1 (by decide), e 6 (by decide), e 7 (by decide)] using q),
    (by have q := h.wdN; simpa only [I_wdN, nSh, nCh, nWd, nCa, nTp, nTr, nLk, nWt, gN, e 10 (by decide)] using q),
    (by have q := h.wd; simpa only [I_wd, nSh, nCh, nWd, nCa, nTp, nTr, nLk, nWt, gN, e 10 (by decide), e 11 (by decide), e 12 (by decide)] using q),
    (by have q := h.caN; simpa only [I_caN, nSh, nCh, nWd, nCa, nTp, nTr, nLk, nWt, gN, e 13 (by decide)] using q),
    (by have q := h.ca; simpa only [I_ca, nSh, nCh, nWd, nCa, nTp, nTr, nLk, nWt, gN, e 1 (by decide), e 13 (by decide), e 14 (by decide)] using q),
    (by have q := h.one; simpa only [I_one, nSh, nCh, nWd, nCa, nTp, nTr, nLk, nWt, gN, e 13 (by decide), e 14 (by decide), e 17 (by decide)] using q),
    (by have q := h.held; simpa only [I_held, nSh, nCh, nWd, nCa, nTp, nTr, nLk, nWt, gN, e 18 (by decide)] using q),
    (by have q := h.heldZ; simpa only [I_heldZ, nSh, nCh, nWd, nCa, nTp, nTr, nLk, nWt, gN, e 13 (by decide), e 18 (by decide)] using q),
    tp,
    tr,
    (by have q := h.lkN; simpa only [I_lkN, nSh, nCh, nWd, nCa, nTp, nTr, nLk, nWt, gN, e 26 (by decide)] using q),
    (by have q := h.lk; simpa only [I_lk, nSh, nCh, nWd, nCa, nTp, nTr, nLk, nWt, gN, e 13 (by decide), e 26 (by decide), e 27 (by decide)] using q),
    (by have q := h.lkD; simpa only [I_lkD, nSh, nCh, nWd, nCa, nTp, nTr, nLk, nWt, gN, e 0 (by decide), e 26 (by decide), e 29 (by decide)] using q),
    (by have q := h.lkF; simpa only [I_lkF, nSh, nCh, nWd, nCa, nTp, nTr, nLk, nWt, gN, e 26 (by decide), e 30 (by decide)] using q),
    (by have q := h.lkH; simpa only [I_lkH, nSh, nCh, nWd, nCa, nTp, nTr, nLk, nWt, gN, e 26 (by decide), e 31 (by decide)] using q),
    (by have q := h.lkC; simpa only [I_lkC, nSh, nCh, nWd, nCa, nTp, nTr, nLk, nWt, gN, e 26 (by decide), e 32 (by decide)] using q),
    (by have q := h.drN; unfold nLk gN at q; rw [← e 33 (by decide), ← e 32 (by decide), ← e 26 (by decide)] at q; exact q),
    (by have q := h.rst; simpa only [I_rst, nSh, nCh, nWd, nCa, nTp, nTr, nLk, nWt, gN, e 34 (by decide)] using q),
    (by have q := h.rstZ; simpa only [I_rstZ, nSh, nCh, nWd, nCa, nTp, nTr, nLk, nWt, gN, e 1 (by decide), e 34 (by decide)] using q),
    (by have q := h.mon; simpa only [I_mon, nSh, nCh, nWd, nCa, nTp, nTr, nLk, nWt, gN, e 35 (by decide)] using q),
    (by have q := h.ban; simpa only [I_ban, nSh, nCh, nWd, nCa, nTp, nTr, nLk, nWt, gN, e 36 (by decide)] using q),
    (by have q := h.banZ; simpa only [I_banZ, nSh, nCh, nWd, nCa, nTp, nTr, nLk, nWt, gN, e 1 (by decide), e 36 (by decide), e 37 (by decide)] using q),
    (by have q := h.banD; simpa only [I_banD, nSh, nCh, nWd, nCa, nTp, nTr, nLk, nWt, gN, e 36 (by decide), e 38 (by decide)] using q),
    (by have q := h.wtN; simpa only [I_wtN, nSh, nCh, nWd, nCa, nTp, nTr, nLk, nWt, gN, e 39 (by decide)] using q)⟩
theorem rd_row {r : Nat} (h1 : r ≠ 23) (h2 : r ≠ 24) (h3 : r ≠ 25) : ∀ m a (G' : GS), (rd m G' a).2 r = G' r
  | 0, a, G' => rfl
  | m + 1, a, G' => by
    unfold rd
    split
    · rfl
    · split
      · rfl
      · exact (rd_row h1 h2 h3 m _ _).trans (rowTells_row _ _ _ _ h1 h2 h3)
theorem readAll_row (G : GS) {r : Nat} (h1 : r ≠ 23) (h2 : r ≠ 24) (h3 : r ≠ 25) : (readAll G).2 r = G r := by
  unfold readAll
  rw [rd_row h1 h2 h3, ini4_row _ _ _ _ h3, ini10_row _ _ _ _ h2, u2_row h1]
theorem tRow_ne {r : Nat} (h : tRow r = false) : r ≠ 19 ∧ r ≠ 20 ∧ r ≠ 21 ∧ r ≠ 22 ∧ r ≠ 23 ∧ r ≠ 24 ∧ r ≠ 25 ∧ r < 40 := by
  unfold tRow at h
  have := of_decide_eq_false h
  omega
theorem inv_treaty (h : Inv G) (on : Int32) : Inv (s_treaty G on).2 := by
  unfold s_treaty
  have h6 := h.trN.2
  split
  · split
    · exact inv_fnd h 4
    · rename_i hne
      have hN : (nI (nTr G + 1)).toNatClampNeg = nTr G + 1 := gN_nI (by omega)
      have h0 : (nI 0).toNatClampNeg = 0 := gN_nI (by decide)
      have h21 : (readAll G).2 21 = G 21 := readAll_row G (by decide) (by decide) (by decide)
      split
      · refine h.rows (fun r hr => ?_) ⟨congrArg nI h0.symm, ?_⟩ ?_
        · have := tRow_ne hr
          show u2 (readAll G).2 19 0 (nI 0) r = G r
          rw [u2_row (by omega), readAll_row G (by omega) (by omega) (by omega)]
        · show (nI 0).toNatClampNeg ≤ 60
          omega
        · show (readAll G).2 21 0 = nI ((readAll G).2 21 0).toNatClampNeg ∧ ((readAll G).2 21 0).toNatClampNeg ≤ 6
          rw [h21]
          exact h.trN
      · refine h.rows (fun r hr => ?_) ⟨congrArg nI h0.symm, ?_⟩ ⟨congrArg nI hN.symm, ?_⟩
        · have := tRow_ne hr
          show u2 (u2 (u2 (readAll G).2 19 0 (nI 0)) 22 (nTr G) on) 21 0 (nI (nTr G + 1)) r = G r
          rw [u2_row (by omega), u2_row (by omega), u2_row (by omega), readAll_row G (by omega) (by omega) (by omega)]
        · show (nI 0).toNatClampNeg ≤ 60
          omega
        · show (nI (nTr G + 1)).toNatClampNeg ≤ 6
          omega
  · exact inv_fnd h 1
theorem inv_says (h : Inv G) (on w : Int32) : Inv (s_says G on w).2 := by
  unfold s_says
  split
  · split
    · exact inv_fnd h 2
    · exact h
  · exact inv_fnd h 1
theorem inv_lookG (h : Inv G) (c b f : Int32) (hc : 0 ≤ c.toInt ∧ c.toInt < nCa G) (hf : 0 ≤ f.toInt ∧ f.toInt ≤ 1023) (hne : nLk G ≠ 60) : Inv (lookG G c b f) ∧ nLk (lookG G c b f) = nLk G + 1 := by
  have h60 := h.lkN.2
  have h50 := h.caN.2
  have hd := h.day
  have hN : (nI (nLk G + 1)).toNatClampNeg = nLk G + 1 := gN_nI (by omega)
  obtain ⟨cc, hcc, rfl⟩ := idxOf hc
  have htn : tn (nI cc) = cc := tn_nI (by omega)
  unfold lookG
  rw [htn]
  refine ⟨⟨h.day, h.shN, h.kind, h.built, h.came, h.chN, h.chg, h.chS, h.wdN, h.wd, h.caN, h.ca, h.one, ?_, ?_, h.tpN, h.trN, ⟨congrArg nI hN.symm, ?_⟩, ?_, ?_, ?_, ?_, ?_, ?_, h.rst, h.rstZ, h.mon, h.ban, h.banZ, h.banD, h.wtN⟩, hN⟩
  · intro i hi
    show u2 G 18 cc (b2 (hldB G (gN G 14 cc) f = true)) 18 i = 0 ∨ u2 G 18 cc (b2 (hldB G (gN G 14 cc) f = true)) 18 i = 1
    by_cases e : i = cc
    · subst e
      rw [u2_eq]
      exact b2_01 _
    · rw [u2_ne e]
      exact h.held i hi
  · intro i hi hi2
    show u2 G 18 cc (b2 (hldB G (gN G 14 cc) f = true)) 18 i = 0
    have hi : nCa G ≤ i := hi
    rw [u2_ne (by omega)]
    exact h.heldZ i hi hi2
  · show (nI (nLk G + 1)).toNatClampNeg ≤ 60
    omega
  · intro l (hl : l < (nI (nLk G + 1)).toNatClampNeg)
    show u2 G 27 (nLk G) (nI cc) 27 l = nI (u2 G 27 (nLk G) (nI cc) 27 l).toNatClampNeg ∧ (u2 G 27 (nLk G) (nI cc) 27 l).toNatClampNeg < nCa G
    by_cases e : l = nLk G
    · subst e
      rw [u2_eq, gN_nI (by omega)]
      exact ⟨rfl, hcc⟩
    · rw [u2_ne e]
      exact h.lk l (by omega)
  · intro l (hl : l < (nI (nLk G + 1)).toNatClampNeg)
    show 0 ≤ (u2 G 29 (nLk G) (G 0 0) 29 l).toInt ∧ (u2 G 29 (nLk G) (G 0 0) 29 l).toInt ≤ (G 0 0).toInt
    by_cases e : l = nLk G
    · subst e
      rw [u2_eq]
      omega
    · rw [u2_ne e]
      exact h.lkD l (by omega)
  · intro l (hl : l < (nI (nLk G + 1)).toNatClampNeg)
    show u2 G 30 (nLk G) f 30 l = nI (u2 G 30 (nLk G) f 30 l).toNatClampNeg ∧ (u2 G 30 (nLk G) f 30 l).toNatClampNeg < 1024
    by_cases e : l = nLk G
    · subst e
      rw [u2_eq]
      exact nIof hf.1 (by omega) (by decide)
    · rw [u2_ne e]
      exact h.lkF l (by omega)
  · intro l (hl : l < (nI (nLk G + 1)).toNatClampNeg)
    show u2 G 31 (nLk G) (b2 (hldB G (gN G 14 cc) f = true)) 31 l = 0 ∨ u2 G 31 (nLk G) (b2 (hldB G (gN G 14 cc) f = true)) 31 l = 1
    by_cases e : l = nLk G
    · subst e
      rw [u2_eq]
      exact b2_01 _
    · rw [u2_ne e]
      exact h.lkH l (by omega)
  · intro l (hl : l < (nI (nLk G + 1)).toNatClampNeg)
    show u2 G 32 (nLk G) (nI 0) 32 l = nI (u2 G 32 (nLk G) (nI 0) 32 l).toNatClampNeg ∧ (u2 G 32 (nLk G) (nI 0) 32 l).toNatClampNeg ≤ 100
    by_cases e : l = nLk G
    · subst e
      rw [u2_eq, gN_nI (by decide)]
      exact ⟨rfl, by omega⟩
    · rw [u2_ne e]
      exact h.lkC l (by omega)
  · show G 33 0 = nI (fb_ct (fun l => decide (0 < (u2 G 32 (nLk G) (nI 0) 32 l).toNatClampNeg)) (nI (nLk G + 1)).toNatClampNeg)
    rw [hN, fb_ct_succ, u2_eq, gN_nI (by decide), h.drN]
    congr 1
    rw [fb_ct_cong (p := fun l => decide (0 < (u2 G 32 (nLk G) (nI 0) 32 l).toNatClampNeg)) (q := fun l => decide (0 < gN G 32 l)) (fun k hk => by rw [u2_ne (by omega)]; rfl)]
    simp
theorem inv_ban (h : Inv G) (i : Nat) (hi : i < nSh G) : Inv (banG G i) := by
  unfold banG
  split
  · rename_i hg
    have hd := h.day
    refine ⟨h.day, h.shN, h.kind, h.built, h.came, h.chN, h.chg, h.chS, h.wdN, h.wd, h.caN, h.ca, h.one, h.held, h.heldZ, h.tpN, h.trN, h.lkN, h.lk, h.lkD, h.lkF, h.lkH, h.lkC, h.drN, h.rst, h.rstZ, h.mon, ?_, ?_, ?_, h.wtN⟩
    · intro j hj
      show u2 G 36 i (nI 1) 36 j = 0 ∨ u2 G 36 i (nI 1) 36 j = 1
      by_cases e : j = i
      · subst e
        rw [u2_eq]
        exact Or.inr rfl
      · rw [u2_ne e]
        exact h.ban j hj
    · intro j hj hj2
      show u2 G 36 i (nI 1) 36 j = 0 ∧ u2 G 37 i (G 37 i + nI 1) 37 j = 0
      have hj : nSh G ≤ j := hj
      rw [u2_ne (by omega), u2_ne (by omega)]
      exact h.banZ j hj hj2
    · intro j hj
      show u2 G 36 i (nI 1) 36 j = 1 → 0 ≤ (u2 G 38 i (G 0 0) 38 j).toInt
      by_cases e : j = i
      · subst e
        rw [u2_eq, u2_eq]
        intro _; exact hd.1
      · rw [u2_ne e, u2_ne e]
        exact h.banD j hj
  · exact h
theorem nSh_lookG (c b f : Int32) : nSh (lookG G c b f) = nSh G := rfl
theorem inv_look (h : Inv G) (c b f : Int32) : Inv (s_look G c b f).2 := by
  unfold s_look
  split
  · rename_i hg
    split
    · exact inv_fnd h 3
    · split
      · exact inv_fnd h 4
      · rename_i h1 h2
        have hL := (inv_lookG h c b f hg.1 hg.2.2 h2).1
        have h50 := h.caN.2
        obtain ⟨cc, hcc, rfl⟩ := idxOf hg.1
        have hs := (h.ca cc hcc).2
        rw [show tn (nI cc) = cc from tn_nI (by omega)]
        show Inv (if _ then _ else _)
        split
        · exact inv_ban hL _ hs
        · exact hL
  · exact inv_fnd h 1
theorem inv_told (h : Inv G) (l w : Int32) : Inv (s_told G l w).2 := by
  unfold s_told
  split
  · exact h
  · exact inv_fnd h 1
theorem inv_share (h : Inv G) (o k w : Int32) : Inv (s_share G o k w).2 := by
  unfold s_share
  split
  · exact h
  · exact inv_fnd h 1
theorem inv_risk (h : Inv G) (s : Int32) : Inv (s_risk G s).2 := by
  unfold s_risk
  split
  · exact h
  · exact inv_fnd h 1
theorem inv_board (h : Inv G) (p q w : Int32) : Inv (s_board G p q w).2 := by
  unfold s_board
  split
  · split
    · exact h
    · split
      · exact h
      · exact inv_fnd h 2
  · exact inv_fnd h 1
theorem inv_restG (h : Inv G) (s : Nat) (bits : Int32) (hs : s < nSh G) (hb : 0 ≤ bits.toInt ∧ bits.toInt ≤ 16777215) : Inv (restG G s bits) := by
  have h16 := h.shN.2
  have e : ∀ r, r ≠ 34 → restG G s bits r = G r := fun r hr => by
    unfold restG
    rw [u2_row hr, shf_row _ _ _ _ hr]
  have e34 : ∀ j, (j < 7 * s ∨ 7 * s + 7 ≤ j) → restG G s bits 34 j = G 34 j := fun j hj => by
    unfold restG
    rw [u2_ne (by omega), shf_of G s j (by omega) 6 (by omega)]
  have e := fun r (hr : decide (r = 34) = false) => e r (of_decide_eq_false hr)
  have p1 : I_rst (restG G s bits) := fun j hj => by
    unfold gN
    by_cases q : j < 7 * s ∨ 7 * s + 7 ≤ j
    · rw [e34 j q]; exact h.rst j hj
    · unfold restG
      by_cases q2 : j = 7 * s + 6
      · subst q2
        rw [u2_eq]
        exact nIof hb.1 (by omega) (by decide)
      · rw [u2_ne q2]
        obtain ⟨d, rfl⟩ : ∃ d, j = 7 * s + d := ⟨j - 7 * s, by omega⟩
        rw [shf_in G s 6 d (by omega)]
        exact h.rst _ (by omega)
  have p2 : I_rstZ (restG G s bits) := fun j (hj : 7 * gN (restG G s bits) 1 0 ≤ j) hj2 => by
    unfold gN at hj
    rw [e 1 (by decide)] at hj
    have hj : 7 * nSh G ≤ j := hj
    rw [e34 j (by omega)]
    exact h.rstZ j hj hj2
  exact ⟨(by have q := h.day; simpa only [I_day, nSh, nCh, nWd, nCa, nTp, nTr, nLk, nWt, gN, e 0 (by decide)] using q),
    (by have q := h.shN; simpa only [I_shN, nSh, nCh, nWd, nCa, nTp, nTr, nLk, nWt, gN, e 1 (by decide)] using q),
    (by have q := h.kind; simpa only [I_kind, nSh, nCh, nWd, nCa, nTp, nTr, nLk, nWt, gN, e 1 (by decide), e 2 (by decide)] using q),
    (by have q := h.built; simpa only [I_built, nSh, nCh, nWd, nCa, nTp, nTr, nLk, nWt, gN, e 0 (by decide), e 1 (by decide), e 4 (by decide)] using q),
    (by have q := h.came; simpa only [I_came, nSh, nCh, nWd, nCa, nTp, nTr, nLk, nWt, gN, e 1 (by decide), e 5 (by decide)] using q),
    (by have q := h.chN; simpa only [I_chN, nSh, nCh, nWd, nCa, nTp, nTr, nLk, nWt, gN, e 6 (by decide)] using q),
    (by have q := h.chg; simpa only [I_chg, nSh, nCh, nWd, nCa, nTp, nTr, nLk, nWt, gN, e 6 (by decide), e 7 (by decide), e 9 (by decide)] using q),
    (by have q := h.chS; simpa only [I_chS, nSh, nCh, nWd, nCa, nTp, nTr, nLk, nWt, gN, e 1 (by decide), e 6 (by decide), e 7 (by decide)] using q),
    (by have q := h.wdN; simpa only [I_wdN, nSh, nCh, nWd, nCa, nTp, nTr, nLk, nWt, gN, e 10 (by decide)] using q),
    (by have q := h.wd; simpa only [I_wd, nSh, nCh, nWd, nCa, nTp, nTr, nLk, nWt, gN, e 10 (by decide), e 11 (by decide), e 12 (by decide)] using q),
    (by have q := h.caN; simpa only [I_caN, nSh, nCh, nWd, nCa, nTp, nTr, nLk, nWt, gN, e 13 (by decide)] using q),
    (by have q := h.ca; simpa only [I_ca, nSh, nCh, nWd, nCa, nTp, nTr, nLk, nWt, gN, e 1 (by decide), e 13 (by decide), e 14 (by decide)] using q),
    (by have q := h.one; simpa only [I_one, nSh, nCh, nWd, nCa, nTp, nTr, nLk, nWt, gN, e 13 (by decide), e 14 (by decide), e 17 (by decide)] using q),
    (by have q := h.held; simpa only [I_held, nSh, nCh, nWd, nCa, nTp, nTr, nLk, nWt, gN, e 18 (by decide)] using q),
    (by have q := h.heldZ; simpa only [I_heldZ, nSh, nCh, nWd, nCa, nTp, nTr, nLk, nWt, gN, e 13 (by decide), e 18 (by decide)] using q),
    (by have q := h.tpN; simpa only [I_tpN, nSh, nCh, nWd, nCa, nTp, nTr, nLk, nWt, gN, e 19 (by decide)] using q),
    (by have q := h.trN; simpa only [I_trN, nSh, nCh, nWd, nCa, nTp, nTr, nLk, nWt, gN, e 21 (by decide)] using q),
    (by have q := h.lkN; simpa only [I_lkN, nSh, nCh, nWd, nCa, nTp, nTr, nLk, nWt, gN, e 26 (by decide)] using q),
    (by have q := h.lk; simpa only [I_lk, nSh, nCh, nWd, nCa, nTp, nTr, nLk, nWt, gN, e 13 (by decide), e 26 (by decide), e 27 (by decide)] using q),
    (by have q := h.lkD; simpa only [I_lkD, nSh, nCh, nWd, nCa, nTp, nTr, nLk, nWt, gN, e 0 (by decide), e 26 (by decide), e 29 (by decide)] using q),
    (by have q := h.lkF; simpa only [I_lkF, nSh, nCh, nWd, nCa, nTp, nTr, nLk, nWt, gN, e 26 (by decide), e 30 (by decide)] using q),
    (by have q := h.lkH; simpa only [I_lkH, nSh, nCh, nWd, nCa, nTp, nTr, nLk, nWt, gN, e 26 (by decide), e 31 (by decide)] using q),
    (by have q := h.lkC; simpa only [I_lkC, nSh, nCh, nWd, nCa, nTp, nTr, nLk, nWt, gN, e 26 (by decide), e 32 (by decide)] using q),
    (by have q := h.drN; unfold nLk gN at q; rw [← e 33 (by decide), ← e 32 (by decide), ← e 26 (by decide)] at q; exact q),
    p1,
    p2,
    (by have q := h.mon; simpa only [I_mon, nSh, nCh, nWd, nCa, nTp, nTr, nLk, nWt, gN, e 35 (by decide)] using q),
    (by have q := h.ban; simpa only [I_ban, nSh, nCh, nWd, nCa, nTp, nTr, nLk, nWt, gN, e 36 (by decide)] using q),
    (by have q := h.banZ; simpa only [I_banZ, nSh, nCh, nWd, nCa, nTp, nTr, nLk, nWt, gN, e 1 (by decide), e 36 (by decide), e 37 (by decide)] using q),
    (by have q := h.banD; simpa only [I_banD, nSh, nCh, nWd, nCa, nTp, nTr, nLk, nWt, gN, e 36 (by decide), e 38 (by decide)] using q),
    (by have q := h.wtN; simpa only [I_wtN, nSh, nCh, nWd, nCa, nTp, nTr, nLk, nWt, gN, e 39 (by decide)] using q)⟩
theorem inv_rest (h : Inv G) (s bits : Int32) : Inv (s_rest G s bits).2 := by
  unfold s_rest
  split
  · rename_i hg
    have h16 := h.shN.2
    obtain ⟨i, hi, rfl⟩ := idxOf hg.1
    rw [show tn (nI i) = i from tn_nI (by omega)]
    exact inv_restG h i bits hi hg.2
  · exact inv_fnd h 1
theorem inv_tired (h : Inv G) (s w : Int32) : Inv (s_tired G s w).2 := by
  unfold s_tired
  split
  · split
    · split
      · exact h
      · exact inv_fnd h 2
    · split <;> exact h
  · exact inv_fnd h 1
theorem inv_months (h : Inv G) (n : Int32) : Inv (s_months G n).2 := by
  unfold s_months
  split
  · rename_i hg
    exact ⟨h.day, h.shN, h.kind, h.built, h.came, h.chN, h.chg, h.chS, h.wdN, h.wd, h.caN, h.ca, h.one, h.held, h.heldZ, h.tpN, h.trN, h.lkN, h.lk, h.lkD, h.lkF, h.lkH, h.lkC, h.drN, h.rst, h.rstZ, hg, h.ban, h.banZ, h.banD, h.wtN⟩
  · exact inv_fnd h 1
theorem inv_banned (h : Inv G) (s w : Int32) : Inv (s_banned G s w).2 := by
  unfold s_banned
  split
  · split
    · exact h
    · split
      · exact h
      · split
        · exact inv_fnd h 2
        · exact h
  · exact inv_fnd h 1
theorem inv_lift (h : Inv G) (s : Int32) : Inv (s_lift G s).2 := by
  unfold s_lift
  split
  · split
    · exact inv_fnd h 3
    · refine ⟨h.day, h.shN, h.kind, h.built, h.came, h.chN, h.chg, h.chS, h.wdN, h.wd, h.caN, h.ca, h.one, h.held, h.heldZ, h.tpN, h.trN, h.lkN, h.lk, h.lkD, h.lkF, h.lkH, h.lkC, h.drN, h.rst, h.rstZ, h.mon, ?_, ?_, ?_, h.wtN⟩
      · intro j hj
        show u2 G 36 (tn s) (nI 0) 36 j = 0 ∨ u2 G 36 (tn s) (nI 0) 36 j = 1
        by_cases e : j = tn s
        · subst e
          rw [u2_eq]
          exact Or.inl rfl
        · rw [u2_ne e]
          exact h.ban j hj
      · intro j hj hj2
        show u2 G 36 (tn s) (nI 0) 36 j = 0 ∧ G 37 j = 0
        refine ⟨?_, (h.banZ j hj hj2).2⟩
        by_cases e : j = tn s
        · subst e
          rw [u2_eq]
          rfl
        · rw [u2_ne e]
          exact (h.banZ j hj hj2).1
      · intro j hj
        show u2 G 36 (tn s) (nI 0) 36 j = 1 → 0 ≤ (G 38 j).toInt
        by_cases e : j = tn s
        · subst e
          rw [u2_eq]
          intro q; exact absurd q (by decide)
        · rw [u2_ne e]
          exact h.banD j hj
  · exact inv_fnd h 1
theorem inv_were (h : Inv G) (a b : Int32) : Inv (s_were G a b).2 := by
  unfold s_were
  split
  · split
    · split
      · exact inv_fnd h 2
      · exact h
    · exact inv_fnd h 3
  · exact inv_fnd h 1
theorem inv_habit (h : Inv G) (b : Int32) : Inv (s_habit G b).2 := by
  unfold s_habit
  split
  · split
    · exact inv_fnd h 2
    · exact h
  · exact inv_fnd h 1
theorem inv_draw (h : Inv G) (l b : Int32) : Inv (s_draw G l b).2 := by
  unfold s_draw
  split
  · rename_i hg
    split
    · exact inv_fnd h 3
    · rename_i hz
      have h60 := h.lkN.2
      obtain ⟨i, hi, rfl⟩ := idxOf hg.1
      rw [show tn (nI i) = i from tn_nI (by omega)] at hz ⊢
      have hc := h.lkC i hi
      have hb := nIof (x := b) (n := 101) (by omega) (by omega) (by decide)
      have hb0 : 0 < b.toNatClampNeg := by
        have := hg.2.1
        rw [hb.1, toI _ (by omega)] at this
        omega
      refine ⟨h.day, h.shN, h.kind, h.built, h.came, h.chN, h.chg, h.chS, h.wdN, h.wd, h.caN, h.ca, h.one, h.held, h.heldZ, h.tpN, h.trN, h.lkN, h.lk, h.lkD, h.lkF, h.lkH, ?_, ?_, h.rst, h.rstZ, h.mon, h.ban, h.banZ, h.banD, h.wtN⟩
      · intro j hj
        show u2 G 32 i b 32 j = nI (u2 G 32 i b 32 j).toNatClampNeg ∧ (u2 G 32 i b 32 j).toNatClampNeg ≤ 100
        by_cases e : j = i
        · subst e
          rw [u2_eq]
          exact ⟨hb.1, by omega⟩
        · rw [u2_ne e]
          exact h.lkC j hj
      · show G 33 0 + nI 1 = nI (fb_ct (fun l => decide (0 < (u2 G 32 i b 32 l).toNatClampNeg)) (nLk G))
        have h1 : gN G 32 i = 0 := by
          rw [hc.1, toI _ (by omega)] at hz
          omega
        have h2 := fb_ct_upd (fun l => decide (0 < gN G 32 l)) true hi
        rw [h.drN, nI_add]
        congr 1
        rw [fb_ct_cong (p := fun l => decide (0 < (u2 G 32 i b 32 l).toNatClampNeg)) (q := fun k => if k = i then true else decide (0 < gN G 32 k)) (fun k hk => by
          by_cases e : k = i
          · subst e
            rw [u2_eq, if_pos rfl]
            exact decide_eq_true hb0
          · rw [u2_ne e, if_neg e]
            rfl)]
        rw [if_neg (by simp [h1]), if_pos rfl] at h2
        omega
  · exact inv_fnd h 1
theorem inv_rate (h : Inv G) : Inv (s_rate G).2 := by
  unfold s_rate
  split
  · exact inv_fnd h 2
  · exact h
theorem inv_tell (h : Inv G) (v : Int32) : Inv (s_tell G v).2 := by
  unfold s_tell
  have hw := h.wtN
  split
  · exact inv_fnd h 4
  · have hN : (nI (nWt G + 1)).toNatClampNeg = nWt G + 1 := gN_nI (by omega)
    refine ⟨h.day, h.shN, h.kind, h.built, h.came, h.chN, h.chg, h.chS, h.wdN, h.wd, h.caN, h.ca, h.one, h.held, h.heldZ, h.tpN, h.trN, h.lkN, h.lk, h.lkD, h.lkF, h.lkH, h.lkC, h.drN, h.rst, h.rstZ, h.mon, h.ban, h.banZ, h.banD, ⟨congrArg nI hN.symm, ?_⟩⟩
    show (nI (nWt G + 1)).toNatClampNeg ≤ 16
    omega
theorem inv_wt0 (h : Inv G) : Inv (u2 G 39 0 (nI 0)) := by
  have h0 : (nI 0).toNatClampNeg = 0 := gN_nI (by decide)
  refine ⟨h.day, h.shN, h.kind, h.built, h.came, h.chN, h.chg, h.chS, h.wdN, h.wd, h.caN, h.ca, h.one, h.held, h.heldZ, h.tpN, h.trN, h.lkN, h.lk, h.lkD, h.lkF, h.lkH, h.lkC, h.drN, h.rst, h.rstZ, h.mon, h.ban, h.banZ, h.banD, ⟨congrArg nI h0.symm, ?_⟩⟩
  show (nI 0).toNatClampNeg ≤ 16
  omega
theorem inv_check (h : Inv G) : Inv (s_check G).2 := inv_wt0 h
theorem inv_count (h : Inv G) (w : Int32) : Inv (s_count G w).2 := by
  unfold s_count
  split
  · exact h
  · exact inv_fnd h 1
theorem inv_found (h : Inv G) (k : Int32) : Inv (s_found G k).2 := by
  unfold s_found
  split
  · exact h
  · exact inv_fnd h 1
end INVP2

