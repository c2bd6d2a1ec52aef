/-! ===== the class: looking things up ===== -/
section CLS2
variable {E : VE} {σ : Sg} {G : GS} {x : Nat} {P : PT} {post : Option Value → Sg → Prop}
set_option maxRecDepth 100000 in
theorem k_shipAt (hR : Rp σ x P G) (hI : Inv G) (s : Int32) (hy : ∀ i, i < nSh G → s = nI i → post (some (.ref (P 1 i))) σ) (hn : ¬ (0 ≤ s.toInt ∧ s.toInt < nSh G) → post (some .null) σ) : MX10_shipAt E 2 0 0 [.ref x, .int s] σ post := by
  refine MA.of RX10 "shipAt" [some (.ref x), some (.int s)] rfl rfl rfl (catAll rfl) (Nat.le_of_ble_eq_true rfl) rfl (fun X => ?_)
  have h1 := hI.shN
  refine V.iload_n (i := 1) dX10_shipAt_0 rfl rfl ?_
  refine V.aload_n (i := 0) dX10_shipAt_1 rfl rfl ?_
  refine V.geti dX10_shipAt_2 fl_X10_86 rfl hR.F.x ?_
  refine V.as _ (hR.S.shipN.trans h1.1) ?_
  refine V.cs2D dX10_shipAt_5 lk_X10_96 (k_isBelowN _ (nSh G) (by omega) ⟨rfl, rfl⟩) (by decide) (by decide) (Nat.le_of_ble_eq_true rfl) (Nat.le_of_ble_eq_true rfl) (Nat.le_of_ble_eq_true rfl) ?_
  refine V.ifb_eq (tgt := 20) dX10_shipAt_8 rfl (fun c8 => ?_) (fun c8 => ?_)
  · refine V.null dX10_shipAt_20 ?_
    refine V.aretN dX10_shipAt_21 (Nat.le_of_ble_eq_true rfl) (Nat.le_of_ble_eq_true rfl) ?_
    first | exact hn c8 | exact hy i hi rfl
  · obtain ⟨i, hi, rfl⟩ := idxOf c8
    refine V.aload_n (i := 0) dX10_shipAt_11 rfl rfl ?_
    refine V.getS dX10_shipAt_12 fl_X10_11 rfl hR.F.x hR.F.ships.1 ?_
    refine V.iload_n (i := 1) dX10_shipAt_15 rfl rfl ?_
    refine V.aaldS (t := 32) dX10_shipAt_16 hR.F.ships.2 (by decide) (by decide) rfl (show _ < 16 from (by omega)) (by decide) (hR.H.at i hi).1 ?_
    refine V.goto (tgt := 21) dX10_shipAt_17 rfl ?_
    refine V.aret dX10_shipAt_21 (Nat.le_of_ble_eq_true rfl) (Nat.le_of_ble_eq_true rfl) ?_
    first | exact hn c8 | exact hy i hi rfl
set_option maxRecDepth 100000 in
theorem k_callAt (hR : Rp σ x P G) (hI : Inv G) (s : Int32) (hy : ∀ i, i < nCa G → s = nI i → post (some (.ref (P 5 i))) σ) (hn : ¬ (0 ≤ s.toInt ∧ s.toInt < nCa G) → post (some .null) σ) : MX10_callAt E 2 0 0 [.ref x, .int s] σ post := by
  refine MA.of RX10 "callAt" [some (.ref x), some (.int s)] rfl rfl rfl (catAll rfl) (Nat.le_of_ble_eq_true rfl) rfl (fun X => ?_)
  have h1 := hI.caN
  refine V.iload_n (i := 1) dX10_callAt_0 rfl rfl ?_
  refine V.aload_n (i := 0) dX10_callAt_1 rfl rfl ?_
  refine V.geti dX10_callAt_2 fl_X10_141 rfl hR.F.x ?_
  refine V.as _ (hR.S.caN.trans h1.1) ?_
  refine V.cs2D dX10_callAt_5 lk_X10_96 (k_isBelowN _ (nCa G) (by omega) ⟨rfl, rfl⟩) (by decide) (by decide) (Nat.le_of_ble_eq_true rfl) (Nat.le_of_ble_eq_true rfl) (Nat.le_of_ble_eq_true rfl) ?_
  refine V.ifb_eq (tgt := 20) dX10_callAt_8 rfl (fun c8 => ?_) (fun c8 => ?_)
  · refine V.null dX10_callAt_20 ?_
    refine V.aretN dX10_callAt_21 (Nat.le_of_ble_eq_true rfl) (Nat.le_of_ble_eq_true rfl) ?_
    first | exact hn c8 | exact hy i hi rfl
  · obtain ⟨i, hi, rfl⟩ := idxOf c8
    refine V.aload_n (i := 0) dX10_callAt_11 rfl rfl ?_
    refine V.getS dX10_callAt_12 fl_X10_24 rfl hR.F.x hR.F.calls.1 ?_
    refine V.iload_n (i := 1) dX10_callAt_15 rfl rfl ?_
    refine V.aaldS (t := 33) dX10_callAt_16 hR.F.calls.2 (by decide) (by decide) rfl (show _ < 50 from (by omega)) (by decide) (hR.C.at i hi).1 ?_
    refine V.goto (tgt := 21) dX10_callAt_17 rfl ?_
    refine V.aret dX10_callAt_21 (Nat.le_of_ble_eq_true rfl) (Nat.le_of_ble_eq_true rfl) ?_
    first | exact hn c8 | exact hy i hi rfl
set_option maxRecDepth 100000 in
theorem k_lookAt (hR : Rp σ x P G) (hI : Inv G) (s : Int32) (hy : ∀ i, i < nLk G → s = nI i → post (some (.ref (P 6 i))) σ) (hn : ¬ (0 ≤ s.toInt ∧ s.toInt < nLk G) → post (some .null) σ) : MX10_lookAt E 2 0 0 [.ref x, .int s] σ post := by
  refine MA.of RX10 "lookAt" [some (.ref x), some (.int s)] rfl rfl rfl (catAll rfl) (Nat.le_of_ble_eq_true rfl) rfl (fun X => ?_)
  have h1 := hI.lkN
  refine V.iload_n (i := 1) dX10_lookAt_0 rfl rfl ?_
  refine V.aload_n (i := 0) dX10_lookAt_1 rfl rfl ?_
  refine V.geti dX10_lookAt_2 fl_X10_210 rfl hR.F.x ?_
  refine V.as _ (hR.S.lkN.trans h1.1) ?_
  refine V.cs2D dX10_lookAt_5 lk_X10_96 (k_isBelowN _ (nLk G) (by omega) ⟨rfl, rfl⟩) (by decide) (by decide) (Nat.le_of_ble_eq_true rfl) (Nat.le_of_ble_eq_true rfl) (Nat.le_of_ble_eq_true rfl) ?_
  refine V.ifb_eq (tgt := 20) dX10_lookAt_8 rfl (fun c8 => ?_) (fun c8 => ?_)
  · refine V.null dX10_lookAt_20 ?_
    refine V.aretN dX10_lookAt_21 (Nat.le_of_ble_eq_true rfl) (Nat.le_of_ble_eq_true rfl) ?_
    first | exact hn c8 | exact hy i hi rfl
  · obtain ⟨i, hi, rfl⟩ := idxOf c8
    refine V.aload_n (i := 0) dX10_lookAt_11 rfl rfl ?_
    refine V.getS dX10_lookAt_12 fl_X10_30 rfl hR.F.x hR.F.looks.1 ?_
    refine V.iload_n (i := 1) dX10_lookAt_15 rfl rfl ?_
    refine V.aaldS (t := 34) dX10_lookAt_16 hR.F.looks.2 (by decide) (by decide) rfl (show _ < 60 from (by omega)) (by decide) (hR.L.at i hi).1 ?_
    refine V.goto (tgt := 21) dX10_lookAt_17 rfl ?_
    refine V.aret dX10_lookAt_21 (Nat.le_of_ble_eq_true rfl) (Nat.le_of_ble_eq_true rfl) ?_
    first | exact hn c8 | exact hy i hi rfl
/-- the fixed forms: the ship is there, or not -/
theorem k_shipAtY (hR : Rp σ x P G) (hI : Inv G) (i : Nat) (hi : i < nSh G) (hp : post (some (.ref (P 1 i))) σ) : MX10_shipAt E 2 0 0 [.ref x, .int (nI i)] σ post := k_shipAt hR hI _ (fun j hj e => by
  have h1 := hI.shN.2
  have := (nI_eq (by omega) (by omega)).mp e
  subst this
  exact hp) (fun z => absurd (by rw [toI _ (by have := hI.shN.2; omega)]; omega) z)
theorem k_shipAtN (hR : Rp σ x P G) (hI : Inv G) (s : Int32) (hs : ¬ (0 ≤ s.toInt ∧ s.toInt < nSh G)) (hp : post (some .null) σ) : MX10_shipAt E 2 0 0 [.ref x, .int s] σ post := k_shipAt hR hI _ (fun j hj e => absurd (by rw [e, toI _ (by have := hI.shN.2; omega)]; omega) hs) (fun _ => hp)
theorem k_callAtY (hR : Rp σ x P G) (hI : Inv G) (i : Nat) (hi : i < nCa G) (hp : post (some (.ref (P 5 i))) σ) : MX10_callAt E 2 0 0 [.ref x, .int (nI i)] σ post := k_callAt hR hI _ (fun j hj e => by
  have h1 := hI.caN.2
  have := (nI_eq (by omega) (by omega)).mp e
  subst this
  exact hp) (fun z => absurd (by rw [toI _ (by have := hI.caN.2; omega)]; omega) z)
theorem k_callAtN (hR : Rp σ x P G) (hI : Inv G) (s : Int32) (hs : ¬ (0 ≤ s.toInt ∧ s.toInt < nCa G)) (hp : post (some .null) σ) : MX10_callAt E 2 0 0 [.ref x, .int s] σ post := k_callAt hR hI _ (fun j hj e => absurd (by rw [e, toI _ (by have := hI.caN.2; omega)]; omega) hs) (fun _ => hp)
theorem k_lookAtY (hR : Rp σ x P G) (hI : Inv G) (i : Nat) (hi : i < nLk G) (hp : post (some (.ref (P 6 i))) σ) : MX10_lookAt E 2 0 0 [.ref x, .int (nI i)] σ post := k_lookAt hR hI _ (fun j hj e => by
  have h1 := hI.lkN.2
  have := (nI_eq (by omega) (by omega)).mp e
  subst this
  exact hp) (fun z => absurd (by rw [toI _ (by have := hI.lkN.2; omega)]; omega) z)
theorem k_lookAtN (hR : Rp σ x P G) (hI : Inv G) (s : Int32) (hs : ¬ (0 ≤ s.toInt ∧ s.toInt < nLk G)) (hp : post (some .null) σ) : MX10_lookAt E 2 0 0 [.ref x, .int s] σ post := k_lookAt hR hI _ (fun j hj e => absurd (by rw [e, toI _ (by have := hI.lkN.2; omega)]; omega) hs) (fun _ => hp)
set_option maxRecDepth 100000 in
theorem k_traitOn (hR : Rp σ x P G) (i w : Nat) (on : Int32) (hi : i < nSh G) (hw : w < 3) (hp : post (some (.int (hadOn G i w on))) σ) : MX5_traitOn E 1 0 0 [.ref (P 1 i), .int (nI w), .int on] σ post := by
  refine MA.of RX5 "traitOn" [some (.ref (P 1 i)), some (.int (nI w)), some (.int on), none] rfl rfl rfl (catAll rfl) (Nat.le_of_ble_eq_true rfl) rfl (fun X => ?_)
  have loop : ∀ c p, chn σ G i w c p → hadK G i w on c = hadOn G i w on → V E X RX5 "traitOn" cX5_traitOn 4 (some .int) 1 0 0 (QM E X post 0 0) σ 0 0 7 [some (.ref (P 1 i)), some (.int (nI w)), some (.int on), some (.ref p)] [] := by
    intro c
    induction c with
    | zero =>
      intro p hc hv
      refine V.aload_n (i := 3) dX5_traitOn_7 rfl rfl ?_
      refine V.getN dX5_traitOn_8 fl_X5_46 rfl hc.1 hc.2.2 ?_
      refine V.ifnullN (tgt := 30) dX5_traitOn_11 rfl ?_
      refine V.aload_n (i := 3) dX5_traitOn_30 rfl rfl ?_
      refine V.geti dX5_traitOn_31 fl_X5_53 rfl hc.1 ?_
      refine V.iret dX5_traitOn_34 (Nat.le_of_ble_eq_true rfl) (Nat.le_of_ble_eq_true rfl) ?_
      exact i_post (hc.2.1.trans hv) hp
    | succ c ih =>
      intro p hc hv
      unfold chn at hc
      unfold hadK at hv
      by_cases q : G 7 c = nI (3 * i + w)
      · rw [if_pos q] at hc
        obtain ⟨t1, t2, t3, p2, t4, t5⟩ := hc
        refine V.aload_n (i := 3) dX5_traitOn_7 rfl rfl ?_
        refine V.getS dX5_traitOn_8 fl_X5_46 rfl t1 t4 ?_
        refine V.ifnull dX5_traitOn_11 ?_
        refine V.aload_n (i := 3) dX5_traitOn_14 rfl rfl ?_
        refine V.geti dX5_traitOn_15 fl_X5_50 rfl t1 ?_
        refine V.as _ t2 ?_
        refine V.iload_n (i := 2) dX5_traitOn_18 rfl rfl ?_
        refine V.icmp_le (tgt := 30) dX5_traitOn_19 rfl (fun c19 => ?_) (fun c19 => ?_)
        · refine V.aload_n (i := 3) dX5_traitOn_30 rfl rfl ?_
          refine V.geti dX5_traitOn_31 fl_X5_53 rfl t1 ?_
          refine V.iret dX5_traitOn_34 (Nat.le_of_ble_eq_true rfl) (Nat.le_of_ble_eq_true rfl) ?_
          exact i_post (t3.trans ((if_pos ⟨q, c19⟩).symm.trans hv)) hp
        · refine V.aload_n (i := 3) dX5_traitOn_22 rfl rfl ?_
          refine V.getS dX5_traitOn_23 fl_X5_46 rfl t1 t4 ?_
          refine V.astore_n3 (by decide) dX5_traitOn_26 ?_
          refine V.goto (tgt := 7) dX5_traitOn_27 rfl ?_
          exact ih p2 t5 ((if_neg (fun z => absurd (Int32.not_lt.mpr z.2) (by simpa using c19))).symm.trans hv)
      · rw [if_neg q] at hc
        exact ih p hc ((if_neg (fun z => q z.1)).symm.trans hv)
  obtain ⟨p, hp1, hp2⟩ := hR.H.chain i hi w hw
  refine V.aload_n (i := 0) dX5_traitOn_0 rfl rfl ?_
  refine V.getS dX5_traitOn_1 fl_X5_11 rfl (hR.H.at i hi).2 (hR.H.lat i hi).1 ?_
  refine V.iload_n (i := 1) dX5_traitOn_4 rfl rfl ?_
  refine V.aaldS (t := 36) dX5_traitOn_5 (hR.H.lat i hi).2 (by decide) (by decide) rfl (show _ < 3 from (by omega)) (by decide) hp1 ?_
  refine V.astore_n3 (by decide) dX5_traitOn_6 ?_
  exact loop (nCh G) p hp2 rfl
set_option maxRecDepth 100000 in
theorem k_isBanned (hR : Rp σ x P G) (hI : Inv G) (i : Nat) (hi : i < nSh G) (hp : post (some (.int (b2 (¬ G 36 i = 0)))) σ) : MX5_isBanned E 1 0 0 [.ref (P 1 i)] σ post := by
  refine MA.of RX5 "isBanned" [some (.ref (P 1 i))] rfl rfl rfl (catAll rfl) (Nat.le_of_ble_eq_true rfl) rfl (fun X => ?_)
  have h16 := hI.shN.2
  refine V.aload_n (i := 0) dX5_isBanned_0 rfl rfl ?_
  refine V.geti dX5_isBanned_1 fl_X5_28 rfl (hR.H.at i hi).2 ?_
  refine V.as _ (hR.H.since i hi) ?_
  refine V.if_lt (tgt := 11) dX5_isBanned_4 rfl (fun c4 => ?_) (fun c4 => ?_)
  · rw [lt0] at c4
    refine V.iconst dX5_isBanned_11 ic_0 ?_
    refine V.zret dX5_isBanned_12 (by decide) (Nat.le_of_ble_eq_true rfl) (Nat.le_of_ble_eq_true rfl) ?_
    by_cases q : G 36 i = 0
    · rw [if_pos q] at c4; first | exact b2_ret0 (Classical.not_not.mpr q) hp | exact absurd (by decide) c4
    · rw [if_neg q] at c4; have := hI.banD i (by omega) ((ne01 (hI.ban i (by omega))).mp q); first | exact b2_ret1 q hp | exact absurd c4 (by omega)
  · rw [lt0] at c4
    refine V.iconst dX5_isBanned_7 ic_1 ?_
    refine V.goto (tgt := 12) dX5_isBanned_8 rfl ?_
    refine V.zret dX5_isBanned_12 (by decide) (Nat.le_of_ble_eq_true rfl) (Nat.le_of_ble_eq_true rfl) ?_
    by_cases q : G 36 i = 0
    · rw [if_pos q] at c4; first | exact b2_ret0 (Classical.not_not.mpr q) hp | exact absurd (by decide) c4
    · rw [if_neg q] at c4; have := hI.banD i (by omega) ((ne01 (hI.ban i (by omega))).mp q); first | exact b2_ret1 q hp | exact absurd c4 (by omega)
set_option maxRecDepth 100000 in
theorem k_isOver (hR : Rp σ x P G) (c : Nat) (hc : c < nCa G) (hp : post (some (.int (b2 (0 ≤ (G 17 c).toInt)))) σ) : MX1_isOver E 1 0 0 [.ref (P 5 c)] σ post := by
  refine MA.of RX1 "isOver" [some (.ref (P 5 c))] rfl rfl rfl (catAll rfl) (Nat.le_of_ble_eq_true rfl) rfl (fun X => ?_)
  refine V.aload_n (i := 0) dX1_isOver_0 rfl rfl ?_
  refine V.geti dX1_isOver_1 fl_X1_7 rfl (hR.C.at c hc).2 ?_
  refine V.as _ (hR.C.over c hc) ?_
  refine V.if_lt (tgt := 11) dX1_isOver_4 rfl (fun c4 => ?_) (fun c4 => ?_)
  · rw [lt0] at c4
    refine V.iconst dX1_isOver_11 ic_0 ?_
    refine V.zret dX1_isOver_12 (by decide) (Nat.le_of_ble_eq_true rfl) (Nat.le_of_ble_eq_true rfl) ?_
    first | exact b2_ret1 (by omega) hp | exact b2_ret0 (by omega) hp
  · rw [lt0] at c4
    refine V.iconst dX1_isOver_7 ic_1 ?_
    refine V.goto (tgt := 12) dX1_isOver_8 rfl ?_
    refine V.zret dX1_isOver_12 (by decide) (Nat.le_of_ble_eq_true rfl) (Nat.le_of_ble_eq_true rfl) ?_
    first | exact b2_ret1 (by omega) hp | exact b2_ret0 (by omega) hp
set_option maxRecDepth 100000 in
theorem k_isDrawn (hR : Rp σ x P G) (l : Nat) (hl : l < nLk G) (hp : post (some (.int (b2 (0 < (G 32 l).toInt)))) σ) : MX2_isDrawn E 1 0 0 [.ref (P 6 l)] σ post := by
  refine MA.of RX2 "isDrawn" [some (.ref (P 6 l))] rfl rfl rfl (catAll rfl) (Nat.le_of_ble_eq_true rfl) rfl (fun X => ?_)
  refine V.aload_n (i := 0) dX2_isDrawn_0 rfl rfl ?_
  refine V.geti dX2_isDrawn_1 fl_X2_27 rfl (hR.L.at l hl).2 ?_
  refine V.as _ (hR.L.chance l hl) ?_
  refine V.if_le (tgt := 11) dX2_isDrawn_4 rfl (fun c4 => ?_) (fun c4 => ?_)
  · rw [le0] at c4
    refine V.iconst dX2_isDrawn_11 ic_0 ?_
    refine V.zret dX2_isDrawn_12 (by decide) (Nat.le_of_ble_eq_true rfl) (Nat.le_of_ble_eq_true rfl) ?_
    first | exact b2_ret1 (by omega) hp | exact b2_ret0 (by omega) hp
  · rw [le0] at c4
    refine V.iconst dX2_isDrawn_7 ic_1 ?_
    refine V.goto (tgt := 12) dX2_isDrawn_8 rfl ?_
    refine V.zret dX2_isDrawn_12 (by decide) (Nat.le_of_ble_eq_true rfl) (Nat.le_of_ble_eq_true rfl) ?_
    first | exact b2_ret1 (by omega) hp | exact b2_ret0 (by omega) hp
theorem P5_inj (hR : Rp σ x P G) (hI : Inv G) {a b : Nat} (ha : a < nCa G) (hb : b < nCa G) (e : P 5 a = P 5 b) : a = b := by
  have h50 := hI.caN.2
  have h1 := hR.C.no a ha
  have h2 := hR.C.no b hb
  rw [e, h2] at h1
  exact ((nI_eq (by omega) (by omega)).mp h1).symm
theorem P1_inj (hR : Rp σ x P G) (hI : Inv G) {a b : Nat} (ha : a < nSh G) (hb : b < nSh G) (e : P 1 a = P 1 b) : a = b := by
  have h16 := hI.shN.2
  have h1 := hR.H.no a ha
  have h2 := hR.H.no b hb
  rw [e, h2] at h1
  exact ((nI_eq (by omega) (by omega)).mp h1).symm
set_option maxRecDepth 100000 in
theorem k_isDoubleOf (hR : Rp σ x P G) (hI : Inv G) (a b : Nat) (ha : a < nLk G) (hb : b < nLk G) (hp : post (some (.int (b2 (dbl G a b = true)))) σ) : MX2_isDoubleOf E 1 0 0 [.ref (P 6 a), .ref (P 6 b)] σ post := by
  refine MA.of RX2 "isDoubleOf" [some (.ref (P 6 a)), some (.ref (P 6 b))] rfl rfl rfl (catAll rfl) (Nat.le_of_ble_eq_true rfl) rfl (fun X => ?_)
  have h50 := hI.caN.2
  have la := hI.lk a ha
  have lb := hI.lk b hb
  have hcc : P 5 (gN G 27 a) = P 5 (gN G 27 b) ↔ G 27 a = G 27 b := by
    rw [la.1, lb.1, nI_eq (by omega) (by omega)]
    exact ⟨fun e => P5_inj hR hI la.2 lb.2 e, fun e => by rw [e]⟩
  refine V.aload_n (i := 0) dX2_isDoubleOf_0 rfl rfl ?_
  refine V.getS dX2_isDoubleOf_1 fl_X2_7 rfl (hR.L.at a ha).2 (hR.L.call a ha) ?_
  refine V.aload_n (i := 1) dX2_isDoubleOf_4 rfl rfl ?_
  refine V.getS dX2_isDoubleOf_5 fl_X2_7 rfl (hR.L.at b hb).2 (hR.L.call b hb) ?_
  refine V.acmp_ne (tgt := 26) dX2_isDoubleOf_8 rfl (fun c8 => ?_) (fun c8 => ?_)
  · rw [hcc] at c8
    refine V.iconst dX2_isDoubleOf_26 ic_0 ?_
    refine V.zret dX2_isDoubleOf_27 (by decide) (Nat.le_of_ble_eq_true rfl) (Nat.le_of_ble_eq_true rfl) ?_
    first | exact b2_ret1 (decide_eq_true ⟨c8, c19⟩) hp | exact b2_ret0 (fun z => c8 (of_decide_eq_true z).1) hp | exact b2_ret0 (fun z => (of_decide_eq_true z).2 c19) hp
  · rw [hcc] at c8
    refine V.aload_n (i := 0) dX2_isDoubleOf_11 rfl rfl ?_
    refine V.geti dX2_isDoubleOf_12 fl_X2_13 rfl (hR.L.at a ha).2 ?_
    refine V.as _ (hR.L.by_ a ha) ?_
    refine V.aload_n (i := 1) dX2_isDoubleOf_15 rfl rfl ?_
    refine V.geti dX2_isDoubleOf_16 fl_X2_13 rfl (hR.L.at b hb).2 ?_
    refine V.as _ (hR.L.by_ b hb) ?_
    refine V.icmp_eq (tgt := 26) dX2_isDoubleOf_19 rfl (fun c19 => ?_) (fun c19 => ?_)
    · refine V.iconst dX2_isDoubleOf_26 ic_0 ?_
      refine V.zret dX2_isDoubleOf_27 (by decide) (Nat.le_of_ble_eq_true rfl) (Nat.le_of_ble_eq_true rfl) ?_
      first | exact b2_ret1 (decide_eq_true ⟨c8, c19⟩) hp | exact b2_ret0 (fun z => c8 (of_decide_eq_true z).1) hp | exact b2_ret0 (fun z => (of_decide_eq_true z).2 c19) hp
    · refine V.iconst dX2_isDoubleOf_22 ic_1 ?_
      refine V.goto (tgt := 27) dX2_isDoubleOf_23 rfl ?_
      refine V.zret dX2_isDoubleOf_27 (by decide) (Nat.le_of_ble_eq_true rfl) (Nat.le_of_ble_eq_true rfl) ?_
      first | exact b2_ret1 (decide_eq_true ⟨c8, c19⟩) hp | exact b2_ret0 (fun z => c8 (of_decide_eq_true z).1) hp | exact b2_ret0 (fun z => (of_decide_eq_true z).2 c19) hp
set_option maxRecDepth 100000 in
theorem k_isInLast (hR : Rp σ x P G) (hI : Inv G) (n : Nat) (l : Nat) (hl : l < nLk G) (hn : n < 100000) (hp : post (some (.int (b2 (inLast G n l = true)))) σ) : MX10_isInLast E 1 0 0 [.ref x, .int (nI n), .int (G 29 l)] σ post := by
  refine MA.of RX10 "isInLast" [some (.ref x), some (.int (nI n)), some (.int (G 29 l))] rfl rfl rfl (catAll rfl) (Nat.le_of_ble_eq_true rfl) rfl (fun X => ?_)
  have hd := hI.day
  have hld := hI.lkD l hl
  refine V.aload_n (i := 0) dX10_isInLast_0 rfl rfl ?_
  refine V.geti dX10_isInLast_1 fl_X10_79 rfl hR.F.x ?_
  refine V.as _ hR.S.day ?_
  refine V.iload_n (i := 2) dX10_isInLast_4 rfl rfl ?_
  refine V.isub dX10_isInLast_5 ?_
  refine V.iload_n (i := 1) dX10_isInLast_6 rfl rfl ?_
  refine V.icmp_ge (tgt := 14) dX10_isInLast_7 rfl (fun c7 => ?_) (fun c7 => ?_)
  · rw [fa_le, subL hd.1 hd.2 hld.1 (by omega), toI _ (by omega)] at c7
    refine V.iconst dX10_isInLast_14 ic_0 ?_
    refine V.zret dX10_isInLast_15 (by decide) (Nat.le_of_ble_eq_true rfl) (Nat.le_of_ble_eq_true rfl) ?_
    first | exact b2_ret1 (decide_eq_true (by omega)) hp | exact b2_ret0 (fun z => by have := of_decide_eq_true z; omega) hp
  · rw [fa_le, subL hd.1 hd.2 hld.1 (by omega), toI _ (by omega)] at c7
    refine V.iconst dX10_isInLast_10 ic_1 ?_
    refine V.goto (tgt := 15) dX10_isInLast_11 rfl ?_
    refine V.zret dX10_isInLast_15 (by decide) (Nat.le_of_ble_eq_true rfl) (Nat.le_of_ble_eq_true rfl) ?_
    first | exact b2_ret1 (decide_eq_true (by omega)) hp | exact b2_ret0 (fun z => by have := of_decide_eq_true z; omega) hp
set_option maxRecDepth 100000 in
theorem k_treatyInForce (hR : Rp σ x P G) (hI : Inv G) (on : Int32) (hp : post (some (va_rf ((frc G on).map (P 7)))) σ) : MX10_treatyInForce E 1 0 0 [.ref x, .int on] σ post := by
  refine MA.of RX10 "treatyInForce" [some (.ref x), some (.int on), none] rfl rfl rfl (catAll rfl) (Nat.le_of_ble_eq_true rfl) rfl (fun X => ?_)
  have hn := hI.trN
  have loop : ∀ k, k ≤ nTr G → frcK G on k = frc G on → V E X RX10 "treatyInForce" cX10_treatyInForce 3 (some (.object RX9)) 1 0 0 (QM E X post 0 0) σ 0 0 7 [some (.ref x), some (.int on), some (.int (nI k - nI 1))] [] := by
    intro k
    induction k with
    | zero =>
      intro hk hv
      refine V.iload_n (i := 2) dX10_treatyInForce_7 rfl rfl ?_
      refine V.if_ltT (tgt := 37) dX10_treatyInForce_8 rfl (by decide) ?_
      refine V.null dX10_treatyInForce_37 ?_
      refine V.aretN dX10_treatyInForce_38 (Nat.le_of_ble_eq_true rfl) (Nat.le_of_ble_eq_true rfl) ?_
      rw [← hv] at hp; exact hp
    | succ k ih =>
      intro hk hv
      rw [frcK] at hv
      have e1 : nI (k + 1) - nI 1 = nI k := pk_sub (by omega)
      rw [e1]
      refine V.iload_n (i := 2) dX10_treatyInForce_7 rfl rfl ?_
      refine V.if_ltF (tgt := 37) dX10_treatyInForce_8 rfl (nI_pos (by omega)) ?_
      refine V.aload_n (i := 0) dX10_treatyInForce_11 rfl rfl ?_
      refine V.getS dX10_treatyInForce_12 fl_X10_36 rfl hR.F.x hR.F.treaties.1 ?_
      refine V.iload_n (i := 2) dX10_treatyInForce_15 rfl rfl ?_
      refine V.aaldS (t := 35) dX10_treatyInForce_16 hR.F.treaties.2 (by decide) (by decide) rfl (show _ < 6 from (by omega)) (by decide) (hR.T.at k (by omega)).1 ?_
      refine V.geti dX10_treatyInForce_17 fl_X10_337 rfl (hR.T.at k (by omega)).2 ?_
      refine V.as _ (hR.T.from_ k (by omega)) ?_
      refine V.iload_n (i := 1) dX10_treatyInForce_20 rfl rfl ?_
      refine V.icmp_gt (tgt := 31) dX10_treatyInForce_21 rfl (fun c21 => ?_) (fun c21 => ?_)
      · refine V.iinc2 (by decide) dX10_treatyInForce_31 (dec1 k) ?_
        refine V.goto (tgt := 7) dX10_treatyInForce_34 rfl ?_
        exact ih (by omega) ((if_neg (Int32.not_le.mpr c21)).symm.trans hv)
      · refine V.aload_n (i := 0) dX10_treatyInForce_24 rfl rfl ?_
        refine V.getS dX10_treatyInForce_25 fl_X10_36 rfl hR.F.x hR.F.treaties.1 ?_
        refine V.iload_n (i := 2) dX10_treatyInForce_28 rfl rfl ?_
        refine V.aaldS (t := 35) dX10_treatyInForce_29 hR.F.treaties.2 (by decide) (by decide) rfl (show _ < 6 from (by omega)) (by decide) (hR.T.at k (by omega)).1 ?_
        refine V.aret dX10_treatyInForce_30 (Nat.le_of_ble_eq_true rfl) (Nat.le_of_ble_eq_true rfl) ?_
        rw [← hv, if_pos (Int32.not_lt.mp c21)] at hp; exact hp
  refine V.aload_n (i := 0) dX10_treatyInForce_0 rfl rfl ?_
  refine V.geti dX10_treatyInForce_1 fl_X10_185 rfl hR.F.x ?_
  refine V.iconst dX10_treatyInForce_4 ic_1 ?_
  refine V.isub dX10_treatyInForce_5 ?_
  refine V.as (nI (nTr G) - nI 1) (by rw [hR.S.trN, hn.1]) ?_
  refine V.istore_n2 (by decide) dX10_treatyInForce_6 ?_
  exact loop _ (Nat.le_refl _) rfl
end CLS2

