/-! ===== what holds of the model's rows at every call ===== -/
def I_day (G : GS) : Prop := 0 ≤ (G 0 0).toInt ∧ (G 0 0).toInt ≤ 9999
def I_shN (G : GS) : Prop := G 1 0 = nI (nSh G) ∧ nSh G ≤ 16
def I_kind (G : GS) : Prop := ∀ i, i < nSh G → G 2 i = nI (gN G 2 i) ∧ gN G 2 i < 4
def I_built (G : GS) : Prop := ∀ i, i < nSh G → 0 ≤ (G 4 i).toInt ∧ (G 4 i).toInt ≤ (G 0 0).toInt
def I_came (G : GS) : Prop := ∀ i, i < nSh G → G 5 (3 * i + 2) = nI (gN G 5 (3 * i + 2)) ∧ gN G 5 (3 * i + 2) < 10
def I_chN (G : GS) : Prop := G 6 0 = nI (nCh G) ∧ nCh G ≤ 60
def I_chg (G : GS) : Prop := ∀ c, c < nCh G → ∀ i, i < 16 → G 7 c = nI (3 * i + 2) → G 9 c = nI (gN G 9 c) ∧ gN G 9 c < 10
def I_chS (G : GS) : Prop := ∀ c, c < nCh G → ∃ k, k < 3 * nSh G ∧ G 7 c = nI k
def I_wdN (G : GS) : Prop := G 10 0 = nI (nWd G) ∧ nWd G ≤ 12
def I_wd (G : GS) : Prop := ∀ w, w < nWd G → (G 11 w = nI (gN G 11 w) ∧ gN G 11 w < 10) ∧ (G 12 w = nI (gN G 12 w) ∧ gN G 12 w < 10)
def I_caN (G : GS) : Prop := G 13 0 = nI (nCa G) ∧ nCa G ≤ 50
def I_ca (G : GS) : Prop := ∀ c, c < nCa G → G 14 c = nI (gN G 14 c) ∧ gN G 14 c < nSh G
def I_one (G : GS) : Prop := ∀ c c2, c < nCa G → c2 < nCa G → G 14 c = G 14 c2 → (G 17 c).toInt < 0 → (G 17 c2).toInt < 0 → c = c2
def I_held (G : GS) : Prop := ∀ c, c < 50 → G 18 c = 0 ∨ G 18 c = 1
def I_heldZ (G : GS) : Prop := ∀ c, nCa G ≤ c → c < 50 → G 18 c = 0
def I_tpN (G : GS) : Prop := G 19 0 = nI (nTp G) ∧ nTp G ≤ 60
def I_trN (G : GS) : Prop := G 21 0 = nI (nTr G) ∧ nTr G ≤ 6
def I_lkN (G : GS) : Prop := G 26 0 = nI (nLk G) ∧ nLk G ≤ 60
def I_lk (G : GS) : Prop := ∀ l, l < nLk G → G 27 l = nI (gN G 27 l) ∧ gN G 27 l < nCa G
def I_lkD (G : GS) : Prop := ∀ l, l < nLk G → 0 ≤ (G 29 l).toInt ∧ (G 29 l).toInt ≤ (G 0 0).toInt
def I_lkF (G : GS) : Prop := ∀ l, l < nLk G → G 30 l = nI (gN G 30 l) ∧ gN G 30 l < 1024
def I_lkH (G : GS) : Prop := ∀ l, l < nLk G → G 31 l = 0 ∨ G 31 l = 1
def I_lkC (G : GS) : Prop := ∀ l, l < nLk G → G 32 l = nI (gN G 32 l) ∧ gN G 32 l ≤ 100
def I_drN (G : GS) : Prop := G 33 0 = nI (fb_ct (fun l => decide (0 < gN G 32 l)) (nLk G))
def I_rst (G : GS) : Prop := ∀ i, i < 112 → G 34 i = nI (gN G 34 i) ∧ gN G 34 i < 16777216
def I_rstZ (G : GS) : Prop := ∀ i, 7 * nSh G ≤ i → i < 112 → G 34 i = 0
def I_mon (G : GS) : Prop := 1 ≤ (G 35 0).toInt ∧ (G 35 0).toInt ≤ 99
def I_ban (G : GS) : Prop := ∀ i, i < 16 → G 36 i = 0 ∨ G 36 i = 1
def I_banZ (G : GS) : Prop := ∀ i, nSh G ≤ i → i < 16 → G 36 i = 0 ∧ G 37 i = 0
def I_banD (G : GS) : Prop := ∀ i, i < 16 → G 36 i = 1 → 0 ≤ (G 38 i).toInt
def I_wtN (G : GS) : Prop := G 39 0 = nI (nWt G) ∧ nWt G ≤ 16
def Inv (G : GS) : Prop := I_day G ∧ I_shN G ∧ I_kind G ∧ I_built G ∧ I_came G ∧ I_chN G ∧ I_chg G ∧ I_chS G ∧ I_wdN G ∧ I_wd G ∧ I_caN G ∧ I_ca G ∧ I_one G ∧ I_held G ∧ I_heldZ G ∧ I_tpN G ∧ I_trN G ∧ I_lkN G ∧ I_lk G ∧ I_lkD G ∧ I_lkF G ∧ I_lkH G ∧ I_lkC G ∧ I_drN G ∧ I_rst G ∧ I_rstZ G ∧ I_mon G ∧ I_ban G ∧ I_banZ G ∧ I_banD G ∧ I_wtN G
theorem Inv.day {G : GS} (h : Inv G) : 0 ≤ (G 0 0).toInt ∧ (G 0 0).toInt ≤ 9999 := h.1
theorem Inv.shN {G : GS} (h : Inv G) : G 1 0 = nI (nSh G) ∧ nSh G ≤ 16 := h.2.1
theorem Inv.kind {G : GS} (h : Inv G) : ∀ i, i < nSh G → G 2 i = nI (gN G 2 i) ∧ gN G 2 i < 4 := h.2.2.1
theorem Inv.built {G : GS} (h : Inv G) : ∀ i, i < nSh G → 0 ≤ (G 4 i).toInt ∧ (G 4 i).toInt ≤ (G 0 0).toInt := h.2.2.2.1
theorem Inv.came {G : GS} (h : Inv G) : ∀ i, i < nSh G → G 5 (3 * i + 2) = nI (gN G 5 (3 * i + 2)) ∧ gN G 5 (3 * i + 2) < 10 := h.2.2.2.2.1
theorem Inv.chN {G : GS} (h : Inv G) : G 6 0 = nI (nCh G) ∧ nCh G ≤ 60 := h.2.2.2.2.2.1
theorem Inv.chg {G : GS} (h : Inv G) : ∀ c, c < nCh G → ∀ i, i < 16 → G 7 c = nI (3 * i + 2) → G 9 c = nI (gN G 9 c) ∧ gN G 9 c < 10 := h.2.2.2.2.2.2.1
theorem Inv.chS {G : GS} (h : Inv G) : ∀ c, c < nCh G → ∃ k, k < 3 * nSh G ∧ G 7 c = nI k := h.2.2.2.2.2.2.2.1
theorem Inv.wdN {G : GS} (h : Inv G) : G 10 0 = nI (nWd G) ∧ nWd G ≤ 12 := h.2.2.2.2.2.2.2.2.1
theorem Inv.wd {G : GS} (h : Inv G) : ∀ w, w < nWd G → (G 11 w = nI (gN G 11 w) ∧ gN G 11 w < 10) ∧ (G 12 w = nI (gN G 12 w) ∧ gN G 12 w < 10) := h.2.2.2.2.2.2.2.2.2.1
theorem Inv.caN {G : GS} (h : Inv G) : G 13 0 = nI (nCa G) ∧ nCa G ≤ 50 := h.2.2.2.2.2.2.2.2.2.2.1
theorem Inv.ca {G : GS} (h : Inv G) : ∀ c, c < nCa G → G 14 c = nI (gN G 14 c) ∧ gN G 14 c < nSh G := h.2.2.2.2.2.2.2.2.2.2.2.1
theorem Inv.one {G : GS} (h : Inv G) : ∀ c c2, c < nCa G → c2 < nCa G → G 14 c = G 14 c2 → (G 17 c).toInt < 0 → (G 17 c2).toInt < 0 → c = c2 := h.2.2.2.2.2.2.2.2.2.2.2.2.1
theorem Inv.held {G : GS} (h : Inv G) : ∀ c, c < 50 → G 18 c = 0 ∨ G 18 c = 1 := h.2.2.2.2.2.2.2.2.2.2.2.2.2.1
theorem Inv.heldZ {G : GS} (h : Inv G) : ∀ c, nCa G ≤ c → c < 50 → G 18 c = 0 := h.2.2.2.2.2.2.2.2.2.2.2.2.2.2.1
theorem Inv.tpN {G : GS} (h : Inv G) : G 19 0 = nI (nTp G) ∧ nTp G ≤ 60 := h.2.2.2.2.2.2.2.2.2.2.2.2.2.2.2.1
theorem Inv.trN {G : GS} (h : Inv G) : G 21 0 = nI (nTr G) ∧ nTr G ≤ 6 := h.2.2.2.2.2.2.2.2.2.2.2.2.2.2.2.2.1
theorem Inv.lkN {G : GS} (h : Inv G) : G 26 0 = nI (nLk G) ∧ nLk G ≤ 60 := h.2.2.2.2.2.2.2.2.2.2.2.2.2.2.2.2.2.1
theorem Inv.lk {G : GS} (h : Inv G) : ∀ l, l < nLk G → G 27 l = nI (gN G 27 l) ∧ gN G 27 l < nCa G := h.2.2.2.2.2.2.2.2.2.2.2.2.2.2.2.2.2.2.1
theorem Inv.lkD {G : GS} (h : Inv G) : ∀ l, l < nLk G → 0 ≤ (G 29 l).toInt ∧ (G 29 l).toInt ≤ (G 0 0).toInt := h.2.2.2.2.2.2.2.2.2.2.2.2.2.2.2.2.2.2.2.1
theorem Inv.lkF {G : GS} (h : Inv G) : ∀ l, l < nLk G → G 30 l = nI (gN G 30 l) ∧ gN G 30 l < 1024 := h.2.2.2.2.2.2.2.2.2.2.2.2.2.2.2.2.2.2.2.2.1
theorem Inv.lkH {G : GS} (h : Inv G) : ∀ l, l < nLk G → G 31 l = 0 ∨ G 31 l = 1 := h.2.2.2.2.2.2.2.2.2.2.2.2.2.2.2.2.2.2.2.2.2.1
theorem Inv.lkC {G : GS} (h : Inv G) : ∀ l, l < nLk G → G 32 l = nI (gN G 32 l) ∧ gN G 32 l ≤ 100 := h.2.2.2.2.2.2.2.2.2.2.2.2.2.2.2.2.2.2.2.2.2.2.1
theorem Inv.drN {G : GS} (h : Inv G) : G 33 0 = nI (fb_ct (fun l => decide (0 < gN G 32 l)) (nLk G)) := h.2.2.2.2.2.2.2.2.2.2.2.2.2.2.2.2.2.2.2.2.2.2.2.1
theorem Inv.rst {G : GS} (h : Inv G) : ∀ i, i < 112 → G 34 i = nI (gN G 34 i) ∧ gN G 34 i < 16777216 := h.2.2.2.2.2.2.2.2.2.2.2.2.2.2.2.2.2.2.2.2.2.2.2.2.1
theorem Inv.rstZ {G : GS} (h : Inv G) : ∀ i, 7 * nSh G ≤ i → i < 112 → G 34 i = 0 := h.2.2.2.2.2.2.2.2.2.2.2.2.2.2.2.2.2.2.2.2.2.2.2.2.2.1
theorem Inv.mon {G : GS} (h : Inv G) : 1 ≤ (G 35 0).toInt ∧ (G 35 0).toInt ≤ 99 := h.2.2.2.2.2.2.2.2.2.2.2.2.2.2.2.2.2.2.2.2.2.2.2.2.2.2.1
theorem Inv.ban {G : GS} (h : Inv G) : ∀ i, i < 16 → G 36 i = 0 ∨ G 36 i = 1 := h.2.2.2.2.2.2.2.2.2.2.2.2.2.2.2.2.2.2.2.2.2.2.2.2.2.2.2.1
theorem Inv.banZ {G : GS} (h : Inv G) : ∀ i, nSh G ≤ i → i < 16 → G 36 i = 0 ∧ G 37 i = 0 := h.2.2.2.2.2.2.2.2.2.2.2.2.2.2.2.2.2.2.2.2.2.2.2.2.2.2.2.2.1
theorem Inv.banD {G : GS} (h : Inv G) : ∀ i, i < 16 → G 36 i = 1 → 0 ≤ (G 38 i).toInt := h.2.2.2.2.2.2.2.2.2.2.2.2.2.2.2.2.2.2.2.2.2.2.2.2.2.2.2.2.2.1
theorem Inv.wtN {G : GS} (h : Inv G) : G 39 0 = nI (nWt G) ∧ nWt G ≤ 16 := h.2.2.2.2.2.2.2.2.2.2.2.2.2.2.2.2.2.2.2.2.2.2.2.2.2.2.2.2.2.2
