/-! ===== the invariant holds behind every call ===== -/
section INVP
variable {G : GS}
theorem gN_nI {n : Nat} (h : n < 2 ^ 31) : (nI n).toNatClampNeg = n := nI_clamp h
theorem nIof {x : Int32} {n : Nat} (h0 : 0 ≤ x.toInt) (h1 : x.toInt < n) (hn : n < 2 ^ 31) : x = nI x.toNatClampNeg ∧ x.toNatClampNeg < n := by
  obtain ⟨j, hj, rfl⟩ := idxOf ⟨h0, h1⟩
  rw [gN_nI (by omega)]
  exact ⟨rfl, hj⟩
theorem inv_fnd (h : Inv G) (k : Nat) : Inv (fnd G k).2 := ⟨h.day, h.shN, h.kind, h.built, h.came, h.chN, h.chg, h.chS, h.wdN, h.wd, h.caN, h.ca, h.one, h.held, h.heldZ, h.tpN, h.trN, h.lkN, h.lk, h.lkD, h.lkF, h.lkH, h.lkC, h.drN, h.rst, h.rstZ, h.mon, h.ban, h.banZ, h.banD, h.wtN⟩
theorem inv_ship (h : Inv G) (of as on : Int32) : Inv (s_ship G of as on).2 := by
  unfold s_ship
  split
  · rename_i hg
    split
    · exact inv_fnd h 4
    · rename_i hne
      have h16 := h.shN.2
      obtain ⟨a, ha, rfl⟩ := idxOf (x := of) (n := 40) (by omega)
      obtain ⟨b, hb, rfl⟩ := idxOf (x := as) (n := 10000) (by omega)
      rw [tn_nI (by omega), tn_nI (by omega)]
      rw [toI a (by omega), toI b (by omega)] at hg
      have hN : (nI (nSh G + 1)).toNatClampNeg = nSh G + 1 := gN_nI (by omega)
      refine ⟨h.day, ⟨congrArg nI hN.symm, ?_⟩, ?_, ?_, ?_, h.chN, h.chg, ?_, h.wdN, h.wd, h.caN, ?_, h.one, h.held, h.heldZ, h.tpN, h.trN, h.lkN, h.lk, h.lkD, h.lkF, h.lkH, h.lkC, h.drN, h.rst, ?_, h.mon, h.ban, ?_, h.banD, h.wtN⟩
      · show (nI (nSh G + 1)).toNatClampNeg ≤ 16
        omega
      · intro i (hi : i < (nI (nSh G + 1)).toNatClampNeg)
        show u2 G 2 (nSh G) (nI (a / 10)) 2 i = nI (u2 G 2 (nSh G) (nI (a / 10)) 2 i).toNatClampNeg ∧ (u2 G 2 (nSh G) (nI (a / 10)) 2 i).toNatClampNeg < 4
        by_cases e : i = nSh G
        · subst e
          rw [u2_eq, gN_nI (by omega)]
          exact ⟨rfl, by omega⟩
        · rw [u2_ne e]
          exact h.kind i (by omega)
      · intro i (hi : i < (nI (nSh G + 1)).toNatClampNeg)
        show 0 ≤ (u2 G 4 (nSh G) on 4 i).toInt ∧ (u2 G 4 (nSh G) on 4 i).toInt ≤ (G 0 0).toInt
        by_cases e : i = nSh G
        · subst e
          rw [u2_eq]
          omega
        · rw [u2_ne e]
          exact h.built i (by omega)
      · intro i (hi : i < (nI (nSh G + 1)).toNatClampNeg)
        show u2 (u2 (u2 G 5 (3 * nSh G) (nI (b / 100))) 5 (3 * nSh G + 1) (nI (b % 10))) 5 (3 * nSh G + 2) (nI (b / 10 % 10)) 5 (3 * i + 2) = nI (u2 (u2 (u2 G 5 (3 * nSh G) (nI (b / 100))) 5 (3 * nSh G + 1) (nI (b % 10))) 5 (3 * nSh G + 2) (nI (b / 10 % 10)) 5 (3 * i + 2)).toNatClampNeg ∧ (u2 (u2 (u2 G 5 (3 * nSh G) (nI (b / 100))) 5 (3 * nSh G + 1) (nI (b % 10))) 5 (3 * nSh G + 2) (nI (b / 10 % 10)) 5 (3 * i + 2)).toNatClampNeg < 10
        by_cases e : i = nSh G
        · subst e
          rw [u2_eq, gN_nI (by omega)]
          exact ⟨rfl, by omega⟩
        · rw [u2_ne (by omega), u2_ne (by omega), u2_ne (by omega)]
          exact h.came i (by omega)
      · intro c hc
        obtain ⟨k, hk, e⟩ := h.chS c hc
        refine ⟨k, ?_, e⟩
        show k < 3 * (nI (nSh G + 1)).toNatClampNeg
        omega
      · intro c hc
        have := h.ca c hc
        refine ⟨this.1, ?_⟩
        show gN G 14 c < (nI (nSh G + 1)).toNatClampNeg
        omega
      · intro i (hi : 7 * (nI (nSh G + 1)).toNatClampNeg ≤ i) h2
        exact h.rstZ i (by omega) h2
      · intro i (hi : (nI (nSh G + 1)).toNatClampNeg ≤ i) h2
        exact h.banZ i (by omega) h2
  · exact inv_fnd h 1
theorem inv_as (h : Inv G) (s k : Int32) : Inv (s_as G s k).2 := by
  unfold s_as
  split
  · split
    · exact h
    · exact inv_fnd h 5
  · exact inv_fnd h 1
theorem inv_change (h : Inv G) (s w v : Int32) : Inv (s_change G s w v).2 := by
  unfold s_change
  split
  · rename_i hg
    split
    · exact inv_fnd h 4
    · rename_i hne
      have h60 := h.chN.2
      have h16 := h.shN.2
      obtain ⟨a, ha, rfl⟩ := idxOf hg.1
      obtain ⟨b, hb, rfl⟩ := idxOf (x := w) (n := 3) (by omega)
      rw [tn_nI (by omega), tn_nI (by omega)]
      rw [show tn (nI b) = b from tn_nI (by omega)] at hg
      have hN : (nI (nCh G + 1)).toNatClampNeg = nCh G + 1 := gN_nI (by omega)
      refine ⟨h.day, h.shN, h.kind, h.built, h.came, ⟨congrArg nI hN.symm, ?_⟩, ?_, ?_, h.wdN, h.wd, h.caN, h.ca, h.one, h.held, h.heldZ, h.tpN, h.trN, h.lkN, h.lk, h.lkD, h.lkF, h.lkH, h.lkC, h.drN, h.rst, h.rstZ, h.mon, h.ban, h.banZ, h.banD, h.wtN⟩
      · show (nI (nCh G + 1)).toNatClampNeg ≤ 60
        omega
      · intro c (hc : c < (nI (nCh G + 1)).toNatClampNeg) i hi
        show u2 G 7 (nCh G) (nI (3 * a + b)) 7 c = _ → u2 G 9 (nCh G) v 9 c = nI (u2 G 9 (nCh G) v 9 c).toNatClampNeg ∧ (u2 G 9 (nCh G) v 9 c).toNatClampNeg < 10
        by_cases e : c = nCh G
        · subst e
          rw [u2_eq, u2_eq, nI_eq (by omega) (by omega)]
          intro q
          have hb2 : b = 2 := by omega
          subst hb2
          have : topOf 2 = 9 := rfl
          rw [this] at hg
          exact nIof hg.2.2.1 (by omega) (by decide)
        · rw [u2_ne e, u2_ne e]
          exact h.chg c (by omega) i hi
      · intro c (hc : c < (nI (nCh G + 1)).toNatClampNeg)
        show ∃ k, k < 3 * nSh G ∧ u2 G 7 (nCh G) (nI (3 * a + b)) 7 c = nI k
        by_cases e : c = nCh G
        · subst e
          exact ⟨3 * a + b, by omega, u2_eq⟩
        · rw [u2_ne e]
          exact h.chS c (by omega)
  · exact inv_fnd h 1
theorem inv_has (h : Inv G) (s w on : Int32) : Inv (s_has G s w on).2 := by
  unfold s_has
  split
  · exact h
  · exact inv_fnd h 1
theorem inv_named (h : Inv G) (nm on : Int32) : Inv (s_named G nm on).2 := by
  unfold s_named
  split
  · split
    · exact h
    · exact inv_fnd h 2
  · exact inv_fnd h 1
theorem inv_one (h : Inv G) (a b : Int32) : Inv (s_one G a b).2 := by
  unfold s_one
  split
  · rename_i hg
    split
    · exact inv_fnd h 4
    · rename_i hne
      have h12 := h.wdN.2
      have hN : (nI (nWd G + 1)).toNatClampNeg = nWd G + 1 := gN_nI (by omega)
      refine ⟨h.day, h.shN, h.kind, h.built, h.came, h.chN, h.chg, h.chS, ⟨congrArg nI hN.symm, ?_⟩, ?_, h.caN, h.ca, h.one, h.held, h.heldZ, h.tpN, h.trN, h.lkN, h.lk, h.lkD, h.lkF, h.lkH, h.lkC, h.drN, h.rst, h.rstZ, h.mon, h.ban, h.banZ, h.banD, h.wtN⟩
      · show (nI (nWd G + 1)).toNatClampNeg ≤ 12
        omega
      · intro w (hw : w < (nI (nWd G + 1)).toNatClampNeg)
        show (u2 G 11 (nWd G) a 11 w = nI (u2 G 11 (nWd G) a 11 w).toNatClampNeg ∧ (u2 G 11 (nWd G) a 11 w).toNatClampNeg < 10) ∧ (u2 G 12 (nWd G) b 12 w = nI (u2 G 12 (nWd G) b 12 w).toNatClampNeg ∧ (u2 G 12 (nWd G) b 12 w).toNatClampNeg < 10)
        by_cases e : w = nWd G
        · subst e
          rw [u2_eq, u2_eq]
          exact ⟨nIof hg.1.1 (by omega) (by decide), nIof hg.2.1.1 (by omega) (by decide)⟩
        · rw [u2_ne e, u2_ne e]
          exact h.wd w (by omega)
  · exact inv_fnd h 1
theorem inv_fleet (h : Inv G) (o on : Int32) : Inv (s_fleet G o on).2 := by
  unfold s_fleet
  split
  · exact h
  · exact inv_fnd h 1
theorem inv_day (h : Inv G) (on : Int32) : Inv (s_day G on).2 := by
  unfold s_day
  split
  · rename_i hg
    refine ⟨hg.1, h.shN, h.kind, ?_, h.came, h.chN, h.chg, h.chS, h.wdN, h.wd, h.caN, h.ca, h.one, h.held, h.heldZ, h.tpN, h.trN, h.lkN, h.lk, ?_, h.lkF, h.lkH, h.lkC, h.drN, h.rst, h.rstZ, h.mon, h.ban, h.banZ, h.banD, h.wtN⟩
    · intro i hi
      have := h.built i hi
      refine ⟨this.1, ?_⟩
      show (G 4 i).toInt ≤ on.toInt
      omega
    · intro l hl
      have := h.lkD l hl
      refine ⟨this.1, ?_⟩
      show (G 29 l).toInt ≤ on.toInt
      omega
  · exact inv_fnd h 1
theorem openK_none {G : GS} {s : Int32} : ∀ n, openK G s n = none ↔ ∀ c, c < n → ¬ (G 14 c = s ∧ (G 17 c).toInt < 0)
  | 0 => ⟨fun _ c h => by omega, fun _ => rfl⟩
  | n + 1 => by
    have ih := openK_none (G := G) (s := s) n
    unfold openK
    split
    · rename_i q
      constructor
      · intro h; cases h
      · intro h; exact absurd q (h n (by omega))
    · rename_i q
      rw [ih]
      constructor
      · intro h c hc
        by_cases e : c = n
        · subst e; exact q
        · exact h c (by omega)
      · intro h c hc
        exact h c (by omega)
theorem inv_call (h : Inv G) (s port : Int32) : Inv (s_call G s port).2 := by
  unfold s_call
  split
  · rename_i hg
    split
    · exact inv_fnd h 3
    · rename_i hno
      split
      · exact inv_fnd h 4
      · rename_i hne
        have h50 := h.caN.2
        have h16 := h.shN.2
        have hop : openOf G s = none := Classical.not_not.mp (fun z => hno (Or.inl z))
        have hop2 := (openK_none (nCa G)).mp hop
        have hN : (nI (nCa G + 1)).toNatClampNeg = nCa G + 1 := gN_nI (by omega)
        refine ⟨h.day, h.shN, h.kind, h.built, h.came, h.chN, h.chg, h.chS, h.wdN, h.wd, ⟨congrArg nI hN.symm, ?_⟩, ?_, ?_, h.held, ?_, h.tpN, h.trN, h.lkN, ?_, h.lkD, h.lkF, h.lkH, h.lkC, h.drN, h.rst, h.rstZ, h.mon, h.ban, h.banZ, h.banD, h.wtN⟩
        · show (nI (nCa G + 1)).toNatClampNeg ≤ 50
          omega
        · intro c (hc : c < (nI (nCa G + 1)).toNatClampNeg)
          show u2 G 14 (nCa G) s 14 c = nI (u2 G 14 (nCa G) s 14 c).toNatClampNeg ∧ (u2 G 14 (nCa G) s 14 c).toNatClampNeg < nSh G
          by_cases e : c = nCa G
          · subst e
            rw [u2_eq]
            exact nIof hg.1.1 hg.1.2 (by omega)
          · rw [u2_ne e]
            exact h.ca c (by omega)
        · intro c c2 (hc : c < (nI (nCa G + 1)).toNatClampNeg) (hc2 : c2 < (nI (nCa G + 1)).toNatClampNeg)
          show u2 G 14 (nCa G) s 14 c = u2 G 14 (nCa G) s 14 c2 → (u2 G 17 (nCa G) (-1) 17 c).toInt < 0 → (u2 G 17 (nCa G) (-1) 17 c2).toInt < 0 → c = c2
          by_cases e : c = nCa G
          · by_cases e2 : c2 = nCa G
            · intro _ _ _; omega
            · rw [e, u2_eq, u2_ne e2, u2_ne e2]
              intro q1 q2 q3
              exact absurd ⟨q1.symm, q3⟩ (hop2 c2 (by omega))
          · by_cases e2 : c2 = nCa G
            · rw [e2, u2_eq, u2_ne e, u2_ne e]
              intro q1 q2 q3
              exact absurd ⟨q1, q2⟩ (hop2 c (by omega))
            · rw [u2_ne e, u2_ne e2, u2_ne e, u2_ne e2]
              exact h.one c c2 (by omega) (by omega)
        · intro c (hc : (nI (nCa G + 1)).toNatClampNeg ≤ c) h2
          exact h.heldZ c (by omega) h2
        · intro l hl
          have := h.lk l hl
          refine ⟨this.1, ?_⟩
          show gN G 27 l < (nI (nCa G + 1)).toNatClampNeg
          omega
  · exact inv_fnd h 1
theorem inv_leave (h : Inv G) (c : Int32) : Inv (s_leave G c).2 := by
  unfold s_leave
  split
  · rename_i hg
    split
    · exact inv_fnd h 3
    · refine ⟨h.day, h.shN, h.kind, h.built, h.came, h.chN, h.chg, h.chS, h.wdN, h.wd, h.caN, h.ca, ?_, h.held, h.heldZ, h.tpN, h.trN, h.lkN, h.lk, h.lkD, h.lkF, h.lkH, h.lkC, h.drN, h.rst, h.rstZ, h.mon, h.ban, h.banZ, h.banD, h.wtN⟩
      intro a b ha hb
      show G 14 a = G 14 b → (u2 G 17 (tn c) (G 0 0) 17 a).toInt < 0 → (u2 G 17 (tn c) (G 0 0) 17 b).toInt < 0 → a = b
      have hd := h.day.1
      by_cases e : a = tn c
      · rw [e, u2_eq]
        intro _ q; omega
      · by_cases e2 : b = tn c
        · rw [e2, u2_eq]
          intro _ _ q; omega
        · rw [u2_ne e, u2_ne e2]
          exact h.one a b ha hb
  · exact inv_fnd h 1
theorem inv_of (h : Inv G) (c w : Int32) : Inv (s_of G c w).2 := by
  unfold s_of
  split
  · exact h
  · exact inv_fnd h 1
theorem inv_feed (h : Inv G) (b : Int32) : Inv (s_feed G b).2 := by
  unfold s_feed
  split
  · split
    · exact inv_fnd h 4
    · rename_i hne
      have h60 := h.tpN.2
      have hN : (nI (nTp G + 1)).toNatClampNeg = nTp G + 1 := gN_nI (by omega)
      refine ⟨h.day, h.shN, h.kind, h.built, h.came, h.chN, h.chg, h.chS, h.wdN, h.wd, h.caN, h.ca, h.one, h.held, h.heldZ, ⟨congrArg nI hN.symm, ?_⟩, h.trN, h.lkN, h.lk, h.lkD, h.lkF, h.lkH, h.lkC, h.drN, h.rst, h.rstZ, h.mon, h.ban, h.banZ, h.banD, h.wtN⟩
      show (nI (nTp G + 1)).toNatClampNeg ≤ 60
      omega
  · exact inv_fnd h 1
end INVP

