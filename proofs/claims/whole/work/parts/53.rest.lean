/-! ===== the class: a day of rest ===== -/
section REST
variable {E : VE} {σ : Sg} {G : GS} {x : Nat} {P : PT} {post : Option Value → Sg → Prop}
def pdS (σ : Sg) (d : Nat) : Nat → Sg
  | 0 => σ
  | k + 1 => wI (pdS σ d k) 21 d k (sI σ 21 d (k + 1))
theorem pdS_at (d : Nat) : ∀ k j, sI (pdS σ d k) 21 d j = if j < k then sI σ 21 d (j + 1) else sI σ 21 d j
  | 0, j => by rw [if_neg (by omega)]; rfl
  | k + 1, j => by
    unfold pdS
    rw [sI_wI]
    by_cases e : j = k
    · subst e
      rw [if_pos ⟨rfl, rfl, rfl⟩, if_pos (by omega)]
    · rw [if_neg (fun z => e z.2.2), pdS_at d k j]
      by_cases r : j < k
      · rw [if_pos r, if_pos (by omega)]
      · rw [if_neg r, if_neg (by omega)]
theorem pdS_o (d : Nat) {a : Nat} (h : a ≠ d) (j : Nat) : ∀ k, sI (pdS σ d k) 21 a j = sI σ 21 a j
  | 0 => rfl
  | k + 1 => by
    unfold pdS
    rw [sI_wI, if_neg (fun z => h z.2.1), pdS_o d h j k]
theorem pdS_f {SI SR : Nat → Nat → Bool} (d : Nat) (h : ∀ k, SI 21 k = false) : ∀ k, frk SI SR σ (pdS σ d k)
  | 0 => frk.rfl'
  | k + 1 => (pdS_f d h k).trans (frk.wI (h k))
theorem pdS_G (d : Nat) : ∀ k, sG (pdS σ d k) = sG σ
  | 0 => rfl
  | k + 1 => pdS_G d k
set_option maxRecDepth 100000 in
theorem k_putDay {w d : Nat} {D : Nat → Nat} (hW : WK σ w d D) (b : Int32) (hp : post none (wI (pdS σ d 6) 21 d 6 b)) : MX4_putDay E 1 0 0 [.ref w, .int b] σ post := by
  refine MA.of RX4 "putDay" [some (.ref w), some (.int b), none] rfl rfl rfl (catAll rfl) (Nat.le_of_ble_eq_true rfl) rfl (fun X => ?_)
  have hF : ∀ k, sT (pdS σ d k) w = 5 ∧ sR (pdS σ d k) 5 w 0 = some d ∧ sT (pdS σ d k) d = 21 := fun k => by
    have f := pdS_f (σ := σ) (SI := fun t _ => decide (t ≠ 21)) (SR := fun _ _ => true) d (fun _ => rfl) k
    exact ⟨f.tag hW.1 (by decide), (f.ref _ hW.1 (by decide) rfl).trans hW.2.1, f.tag hW.2.2.1 (by decide)⟩
  have loop : ∀ m k, m + k = 6 → V E X RX4 "putDay" cX4_putDay 3 none 1 0 0 (QM E X post 0 0) (pdS σ d k) 0 0 2 [some (.ref w), some (.int b), some (.int (nI (k + 1)))] [] := by
    intro m
    induction m with
    | zero =>
      intro k hk
      rw [show k = 6 by omega]
      refine V.iload_n (i := 2) dX4_putDay_2 rfl rfl ?_
      refine V.bipush dX4_putDay_3 bc_7 ?_
      refine V.icmp_geT (tgt := 28) dX4_putDay_5 rfl (by decide) ?_
      refine V.aload_n (i := 0) dX4_putDay_28 rfl rfl ?_
      refine V.getS dX4_putDay_29 fl_X4_9 rfl (hF _).1 (hF _).2.1 ?_
      refine V.bipush dX4_putDay_32 bc_6 ?_
      refine V.iload_n (i := 1) dX4_putDay_34 rfl rfl ?_
      refine V.iast (t := 21) dX4_putDay_35 (hF _).2.2 (by decide) rfl rfl (show _ < 7 from (by omega)) (by decide) ?_
      refine V.vret dX4_putDay_36 (Nat.le_of_ble_eq_true rfl) (Nat.le_of_ble_eq_true rfl) ?_
      exact hp
    | succ m ih =>
      intro k hk
      refine V.iload_n (i := 2) dX4_putDay_2 rfl rfl ?_
      refine V.bipush dX4_putDay_3 bc_7 ?_
      refine V.icmp_geF (tgt := 28) dX4_putDay_5 rfl (nI_ge (by omega) (by decide)) ?_
      refine V.aload_n (i := 0) dX4_putDay_8 rfl rfl ?_
      refine V.getS dX4_putDay_9 fl_X4_9 rfl (hF _).1 (hF _).2.1 ?_
      refine V.iload_n (i := 2) dX4_putDay_12 rfl rfl ?_
      refine V.iconst dX4_putDay_13 ic_1 ?_
      refine V.isub dX4_putDay_14 ?_
      refine V.as (nI k) (show nI (k + 1) - nI 1 = _ from pk_sub (by omega)) ?_
      refine V.aload_n (i := 0) dX4_putDay_15 rfl rfl ?_
      refine V.getS dX4_putDay_16 fl_X4_9 rfl (hF _).1 (hF _).2.1 ?_
      refine V.iload_n (i := 2) dX4_putDay_19 rfl rfl ?_
      refine V.iald (t := 21) dX4_putDay_20 (hF _).2.2 (by decide) rfl rfl (show _ < 7 from (by omega)) (by decide) ?_
      refine V.as (sI σ 21 d (k + 1)) (by rw [pdS_at, if_neg (by omega)]) ?_
      refine V.iast (t := 21) dX4_putDay_21 (hF _).2.2 (by decide) rfl rfl (show _ < 7 from (by omega)) (by decide) ?_
      refine V.iinc2 (by decide) dX4_putDay_22 (inc1 _) ?_
      refine V.goto (tgt := 2) dX4_putDay_25 rfl ?_
      exact ih (k + 1) (by omega)
  refine V.iconst dX4_putDay_0 ic_1 ?_
  refine V.istore_n2 (by decide) dX4_putDay_1 ?_
  exact loop 6 0 rfl
theorem restG_in {i d : Nat} (b : Int32) (hd : d < 7) : restG G i b 34 (7 * i + d) = if d < 6 then G 34 (7 * i + d + 1) else b := by
  unfold restG
  rw [u2_at]
  by_cases q : d < 6
  · rw [if_neg (by omega), if_pos q, shf_in G i 6 d q]
  · rw [if_pos (by omega), if_neg q]
theorem restG_out {i j : Nat} (b : Int32) (h : j < 7 * i ∨ 7 * i + 7 ≤ j) : restG G i b 34 j = G 34 j := by
  unfold restG
  rw [u2_at, if_neg (by omega), shf_of G i j (by omega) 6 (Nat.le_refl _)]
theorem restG_row {i r : Nat} (b : Int32) (h : r ≠ 34) : restG G i b r = G r := by
  unfold restG
  rw [u2_row h, shf_row G i 6 r h]
set_option maxRecDepth 100000 in
theorem k_rest (hR : Rp σ x P G) (hI : Inv G) (s b : Int32) (hp : PU x σ (s_rest G s b) post) : MX10_rest E 3 0 0 [.ref x, .int s, .int b] σ post := by
  refine MA.of RX10 "rest" [some (.ref x), some (.int s), some (.int b), none] rfl rfl rfl (catAll rfl) (Nat.le_of_ble_eq_true rfl) rfl (fun X => ?_)
  have h16 := hI.shN.2
  by_cases hs : 0 ≤ s.toInt ∧ s.toInt < nSh G
  · obtain ⟨i, hi, rfl⟩ := idxOf hs
    have hW := wkOf hR hI hi
    have er : ∀ r, r ≠ 34 → restG G i b r = G r := fun r hr => restG_row b hr
    have f : frk (fun t _ => decide (t ≠ 21)) (fun _ _ => true) σ (wI (pdS σ (P 4 i) 6) 21 (P 4 i) 6 b) := (pdS_f _ (fun _ => rfl) 6).trans (frk.wI rfl)
    have hre : SH_rest (wI (pdS σ (P 4 i) 6) 21 (P 4 i) 6 b) P (restG G i b) := by
      intro j hj d hd
      replace hj : j < nSh G := (show nSh (restG G i b) = nSh G from gN_e (er 1 (by decide)) 0) ▸ hj
      by_cases q : j = i
      · subst q
        rw [restG_in b hd, sI_wI]
        by_cases qd : d < 6
        · rw [if_neg (fun z => by have := z.2.2; omega), pdS_at, if_pos qd, if_pos qd, Nat.add_assoc]
          exact hR.H.rest j hj (d + 1) (by omega)
        · rw [if_pos ⟨rfl, rfl, by omega⟩, if_neg qd]
      · have hne : P 4 j ≠ P 4 i := fun e => q (hR.J.2.1 j i hj hi e)
        rw [restG_out b (by omega), sI_wI, if_neg (fun z => hne z.2.1), pdS_o _ hne]
        exact hR.H.rest j hj d hd
    have hR2 : Rp (wI (pdS σ (P 4 i) 6) 21 (P 4 i) 6 b) x P (restG G i b) :=
      ⟨hR.F.k f (fun _ => rfl) rfl rfl (fun _ => rfl),
       (by have q : SC (wI (pdS σ (P 4 i) 6) 21 (P 4 i) 6 b) x P G := ⟨((f.num 1 hR.F.x (by decide) rfl).trans hR.S.shipN), ((f.num 2 hR.F.x (by decide) rfl).trans hR.S.chN), ((f.num 5 hR.F.x (by decide) rfl).trans hR.S.caN), ((f.num 7 hR.F.x (by decide) rfl).trans hR.S.lkN), ((f.num 9 hR.F.x (by decide) rfl).trans hR.S.trN), ((f.num 11 hR.F.x (by decide) rfl).trans hR.S.day), ((f.num 12 hR.F.x (by decide) rfl).trans hR.S.mon), ((f.num 13 hR.F.x (by decide) rfl).trans hR.S.drN), ((f.num 15 hR.F.x (by decide) rfl).trans hR.S.wtN), ((f.num 1 hR.F.owners.2 (by decide) rfl).trans hR.S.wdN), ((f.num 1 hR.F.tape.2 (by decide) rfl).trans hR.S.tpN), (fun j hj => (f.num j hR.F.bytes.2 (by decide) rfl).trans (hR.S.tp j hj)), (fun j hj => (f.num j hR.F.wait.2 (by decide) rfl).trans (hR.S.wt j hj)), (fun j hj => (f.num j hR.F.fnds.2 (by decide) rfl).trans (hR.S.fd j hj))⟩
           exact q.e (er 0 (by decide)) (er 1 (by decide)) (er 6 (by decide)) (er 10 (by decide)) (er 13 (by decide)) (er 19 (by decide)) (er 20 (by decide)) (er 21 (by decide)) (er 26 (by decide)) (er 33 (by decide)) (er 35 (by decide)) (er 39 (by decide)) (er 40 (by decide)) (by rw [er 41 (by decide)]; exact q.fd)),
       hR.O.k hR.F f (fun _ => rfl) (er 10 (by decide)) (er 11 (by decide)) (er 12 (by decide)),
       ⟨SH_at.k hR.H hR.F f (fun _ => rfl) (er 1 (by decide)), SH_no.k hR.H hR.F f rfl (er 1 (by decide)), SH_kind.k hR.H hR.F f rfl (er 1 (by decide)) (er 2 (by decide)), SH_soc.k hR.H hR.F f rfl (er 1 (by decide)) (er 3 (by decide)), SH_built.k hR.H hR.F f rfl (er 1 (by decide)) (er 4 (by decide)), SH_lat.k hR.H hR.F f rfl (er 1 (by decide)), SH_week.k hR.H hR.F f rfl (er 1 (by decide)), SH_days.k hR.H hR.F f rfl (er 1 (by decide)), hre, SH_berth.k hR.H hR.F f rfl (er 1 (by decide)) (er 13 (by decide)) (er 14 (by decide)) (er 17 (by decide)), SH_last.k hR.H hR.F f rfl (er 1 (by decide)) (er 14 (by decide)) (er 26 (by decide)) (er 27 (by decide)) (er 29 (by decide)), SH_since.k hR.H hR.F f rfl (er 1 (by decide)) (er 36 (by decide)) (er 38 (by decide)), SH_bans.k hR.H hR.F f rfl (er 1 (by decide)) (er 37 (by decide)), SH_chain.k hR.H hR.F f (fun _ => rfl) rfl rfl rfl (er 1 (by decide)) (er 5 (by decide)) (er 6 (by decide)) (er 7 (by decide)) (er 8 (by decide)) (er 9 (by decide))⟩,
       (by have q : CA (wI (pdS σ (P 4 i) 6) 21 (P 4 i) 6 b) P G := ⟨(CA_at.k (P := P) (G := G) hR.C hR.F f (fun _ => rfl) rfl), (CA_no.k (P := P) (G := G) hR.C hR.F f rfl rfl), (CA_ship.k (P := P) (G := G) hR.C hR.F f rfl rfl rfl), (CA_port.k (P := P) (G := G) hR.C hR.F f rfl rfl rfl), (CA_from_.k (P := P) (G := G) hR.C hR.F f rfl rfl rfl), (CA_over.k (P := P) (G := G) hR.C hR.F f rfl rfl rfl), (CA_held.k (P := P) (G := G) hR.C hR.F f rfl rfl rfl), (CA_lks.k (P := P) (G := G) hR.C hR.F f rfl rfl rfl rfl)⟩
           exact q.e (er 13 (by decide)) (er 14 (by decide)) (er 15 (by decide)) (er 16 (by decide)) (er 17 (by decide)) (er 18 (by decide)) (er 26 (by decide)) (er 27 (by decide))),
       (by have q : LO (wI (pdS σ (P 4 i) 6) 21 (P 4 i) 6 b) P G := ⟨(LO_at.k (P := P) (G := G) hR.L hR.F f (fun _ => rfl) rfl), (LO_call.k (P := P) (G := G) hR.L hR.F f rfl rfl rfl), (LO_by_.k (P := P) (G := G) hR.L hR.F f rfl rfl rfl), (LO_on_.k (P := P) (G := G) hR.L hR.F f rfl rfl rfl), (LO_flt.k (P := P) (G := G) hR.L hR.F f rfl rfl rfl), (LO_hold.k (P := P) (G := G) hR.L hR.F f rfl rfl rfl), (LO_chance.k (P := P) (G := G) hR.L hR.F f rfl rfl rfl)⟩
           exact q.e (er 26 (by decide)) (er 27 (by decide)) (er 28 (by decide)) (er 29 (by decide)) (er 30 (by decide)) (er 31 (by decide)) (er 32 (by decide))),
       (by have q : TR (wI (pdS σ (P 4 i) 6) 21 (P 4 i) 6 b) P G := ⟨(TR_at.k (P := P) (G := G) hR.T hR.F f (fun _ => rfl) rfl), (TR_from_.k (P := P) (G := G) hR.T hR.F f rfl rfl rfl), (TR_wts.k (P := P) (G := G) hR.T hR.F f rfl rfl), (TR_grv.k (P := P) (G := G) hR.T hR.F f rfl rfl), (TR_lim.k (P := P) (G := G) hR.T hR.F f rfl rfl rfl), (TR_wt.k (P := P) (G := G) hR.T hR.F f (fun _ => rfl) rfl rfl), (TR_gr.k (P := P) (G := G) hR.T hR.F f (fun _ => rfl) rfl rfl)⟩
           exact q.e (er 21 (by decide)) (er 22 (by decide)) (er 23 (by decide)) (er 24 (by decide)) (er 25 (by decide))),
       hR.J.e (er 1 (by decide)) (er 26 (by decide))⟩
    have e0 := dB_rst0 (restG G i b) i 168
    have eg : sG (wI (pdS σ (P 4 i) 6) 21 (P 4 i) 6 b) = sG σ := pdS_G (P 4 i) 6
    refine V.aload_n (i := 0) dX10_rest_0 rfl rfl ?_
    refine V.iload_n (i := 1) dX10_rest_1 rfl rfl ?_
    refine V.cv1D (ci := 10) dX10_rest_2 lk_X10_92 (by decide) rfl hR.F.x (k_shipAtY hR hI i hi ⟨rfl, rfl⟩) (by decide) (by decide) (Nat.le_of_ble_eq_true rfl) (Nat.le_of_ble_eq_true rfl) (Nat.le_of_ble_eq_true rfl) ?_
    refine V.astore_n3 (by decide) dX10_rest_5 ?_
    refine V.aload_n (i := 3) dX10_rest_6 rfl rfl ?_
    refine V.ifnull dX10_rest_7 ?_
    refine V.iload_n (i := 2) dX10_rest_10 rfl rfl ?_
    refine V.ldcw dX10_rest_11 wv_X10_280 ?_
    refine V.cs2D dX10_rest_14 lk_X10_96 (k_isBelowN _ 16777216 (by decide) ⟨rfl, rfl⟩) (by decide) (by decide) (Nat.le_of_ble_eq_true rfl) (Nat.le_of_ble_eq_true rfl) (Nat.le_of_ble_eq_true rfl) ?_
    refine V.ifb_ne (tgt := 26) dX10_rest_17 rfl (fun c17 => ?_) (fun c17 => ?_)
    · have hz : s_rest G (nI i) b = (nI (restCnt (restG G i b) i 0 168), restG G i b) := by unfold s_rest; rw [tn_nI (by omega), if_pos (by omega)]
      have hI2 : Inv (restG G i b) := by have q := inv_rest hI (nI i) b; rw [hz] at q; exact q
      have hi2 : i < nSh (restG G i b) := (show nSh (restG G i b) = nSh G from gN_e (er 1 (by decide)) 0).symm ▸ hi
      refine V.aload_n (i := 3) dX10_rest_26 rfl rfl ?_
      refine V.getS dX10_rest_27 fl_X10_281 rfl (hR.H.at i hi).2 (hR.H.week i hi).1 ?_
      refine V.iload_n (i := 2) dX10_rest_30 rfl rfl ?_
      refine V.cv1U (ci := 4) dX10_rest_31 lk_X10_285 (by decide) rfl (hR.H.week i hi).2 (k_putDay hW b ⟨rfl, rfl⟩) (by decide) (by decide) (Nat.le_of_ble_eq_true rfl) (Nat.le_of_ble_eq_true rfl) (Nat.le_of_ble_eq_true rfl) ?_
      refine V.aload_n (i := 3) dX10_rest_34 rfl rfl ?_
      refine V.getS dX10_rest_35 fl_X10_281 rfl (hR2.H.at i hi2).2 (hR2.H.week i hi2).1 ?_
      refine V.cv0D (ci := 4) dX10_rest_38 lk_X10_290 (by decide) rfl (hR2.H.week i hi2).2 (k_hoursOfRest (wkOf hR2 hI2 hi2) ⟨rfl, rfl⟩) (by decide) (by decide) (Nat.le_of_ble_eq_true rfl) (Nat.le_of_ble_eq_true rfl) (Nat.le_of_ble_eq_true rfl) ?_
      refine V.as _ (congrArg nI e0) ?_
      refine V.iret dX10_rest_41 (Nat.le_of_ble_eq_true rfl) (Nat.le_of_ble_eq_true rfl) ?_
      exact pu hp hz hR2 eg
    · refine V.aload_n (i := 0) dX10_rest_20 rfl rfl ?_
      refine V.iconst dX10_rest_21 ic_1 ?_
      refine V.cv1D (ci := 10) dX10_rest_22 lk_X10_82 (by decide) rfl hR.F.x (k_finding hR _ (by decide) ⟨rfl, rfl⟩) (by decide) (by decide) (Nat.le_of_ble_eq_true rfl) (Nat.le_of_ble_eq_true rfl) (Nat.le_of_ble_eq_true rfl) ?_
      refine V.iret dX10_rest_25 (Nat.le_of_ble_eq_true rfl) (Nat.le_of_ble_eq_true rfl) ?_
      exact puF hp (if_neg (by omega)) hR rfl
  · skip
    refine V.aload_n (i := 0) dX10_rest_0 rfl rfl ?_
    refine V.iload_n (i := 1) dX10_rest_1 rfl rfl ?_
    refine V.cv1D (ci := 10) dX10_rest_2 lk_X10_92 (by decide) rfl hR.F.x (k_shipAtN hR hI s hs ⟨rfl, rfl⟩) (by decide) (by decide) (Nat.le_of_ble_eq_true rfl) (Nat.le_of_ble_eq_true rfl) (Nat.le_of_ble_eq_true rfl) ?_
    refine V.astore_n3N (by decide) dX10_rest_5 ?_
    refine V.aload_nN (i := 3) dX10_rest_6 rfl rfl ?_
    refine V.ifnullN (tgt := 20) dX10_rest_7 rfl ?_
    refine V.aload_n (i := 0) dX10_rest_20 rfl rfl ?_
    refine V.iconst dX10_rest_21 ic_1 ?_
    refine V.cv1D (ci := 10) dX10_rest_22 lk_X10_82 (by decide) rfl hR.F.x (k_finding hR _ (by decide) ⟨rfl, rfl⟩) (by decide) (by decide) (Nat.le_of_ble_eq_true rfl) (Nat.le_of_ble_eq_true rfl) (Nat.le_of_ble_eq_true rfl) ?_
    refine V.iret dX10_rest_25 (Nat.le_of_ble_eq_true rfl) (Nat.le_of_ble_eq_true rfl) ?_
    exact puF hp (if_neg (by omega)) hR rfl
end REST

