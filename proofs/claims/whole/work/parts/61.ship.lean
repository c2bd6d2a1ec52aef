/-! ===== the class: ships come, and change ===== -/
section SHIP
variable {E : VE} {σ : Sg} {G : GS} {x : Nat} {P : PT} {post : Option Value → Sg → Prop}
def trS (τ : Sg) (a : Nat) (from_ v : Int32) (p : Option Nat) : Sg := wR (wI (wI τ 9 a 0 from_) 9 a 1 v) 9 a 2 p
set_option maxRecDepth 100000 in
theorem k_traitInit {a p : Nat} (ht : sT σ a = 9) (from_ v : Int32) (hp : post none (trS σ a from_ v (some p))) : MX8_init E 1 0 0 [.ref a, .int from_, .int v, .ref p] σ post := by
  refine MA.of RX8 "<init>" [some (.ref a), some (.int from_), some (.int v), some (.ref p)] rfl rfl rfl (catAll rfl) (Nat.le_of_ble_eq_true rfl) rfl (fun X => ?_)
  refine V.aload_n (i := 0) dX8_init_0 rfl rfl ?_
  refine V.objInit dX8_init_1 wm_X8_1 wi_objectInit wc_objectInit (Nat.le_of_ble_eq_true rfl) (by decide) ?_
  refine V.aload_n (i := 0) dX8_init_4 rfl rfl ?_
  refine V.iload_n (i := 1) dX8_init_5 rfl rfl ?_
  refine V.putFi dX8_init_6 fl_X8_7 rfl rfl rfl rfl ht ?_
  refine V.aload_n (i := 0) dX8_init_9 rfl rfl ?_
  refine V.iload_n (i := 2) dX8_init_10 rfl rfl ?_
  refine V.putFi dX8_init_11 fl_X8_13 rfl rfl rfl rfl ht ?_
  refine V.aload_n (i := 0) dX8_init_14 rfl rfl ?_
  refine V.aload_n (i := 3) dX8_init_15 rfl rfl ?_
  refine V.putFr dX8_init_16 fl_X8_16 rfl rfl rfl rfl ht ?_
  refine V.vret dX8_init_19 (Nat.le_of_ble_eq_true rfl) (Nat.le_of_ble_eq_true rfl) ?_
  exact hp
set_option maxRecDepth 100000 in
theorem k_traitInitN {a : Nat} (ht : sT σ a = 9) (from_ v : Int32) (hp : post none (trS σ a from_ v none)) : MX8_init E 1 0 0 [.ref a, .int from_, .int v, .null] σ post := by
  refine MA.of RX8 "<init>" [some (.ref a), some (.int from_), some (.int v), some (.null)] rfl rfl rfl (catAll rfl) (Nat.le_of_ble_eq_true rfl) rfl (fun X => ?_)
  refine V.aload_n (i := 0) dX8_init_0 rfl rfl ?_
  refine V.objInit dX8_init_1 wm_X8_1 wi_objectInit wc_objectInit (Nat.le_of_ble_eq_true rfl) (by decide) ?_
  refine V.aload_n (i := 0) dX8_init_4 rfl rfl ?_
  refine V.iload_n (i := 1) dX8_init_5 rfl rfl ?_
  refine V.putFi dX8_init_6 fl_X8_7 rfl rfl rfl rfl ht ?_
  refine V.aload_n (i := 0) dX8_init_9 rfl rfl ?_
  refine V.iload_n (i := 2) dX8_init_10 rfl rfl ?_
  refine V.putFi dX8_init_11 fl_X8_13 rfl rfl rfl rfl ht ?_
  refine V.aload_n (i := 0) dX8_init_14 rfl rfl ?_
  refine V.aload_nN (i := 3) dX8_init_15 rfl rfl ?_
  refine V.putFN dX8_init_16 fl_X8_16 rfl rfl rfl rfl ht ?_
  refine V.vret dX8_init_19 (Nat.le_of_ble_eq_true rfl) (Nat.le_of_ble_eq_true rfl) ?_
  exact hp
set_option maxRecDepth 100000 in
theorem k_setTrait {i w p : Nat} (hR : Rp σ x P G) (hlt : ∀ a, sT σ a ≠ 0 → a < sN σ) (hi : i < nSh G) (hw : w < 3) (hp1 : sR σ 36 (P 2 i) w = some p) (on v : Int32) (hp : post none (wR (trS (wN σ 9) (sN σ) on v (some p)) 36 (P 2 i) w (some (sN σ)))) : MX5_setTrait E 2 1 3 [.ref (P 1 i), .int (nI w), .int on, .int v] σ post := by
  refine MA.of RX5 "setTrait" [some (.ref (P 1 i)), some (.int (nI w)), some (.int on), some (.int v)] rfl rfl rfl (catAll rfl) (Nat.le_of_ble_eq_true rfl) rfl (fun X => ?_)
  have fN : frk (fun _ _ => true) (fun _ _ => true) σ (wN σ 9) := frk.wN hlt
  have fT : frk (fun _ _ => true) (fun _ _ => true) σ (trS (wN σ 9) (sN σ) on v (some p)) := (((((nw.rfl').N 9).I (Nat.le_refl _)).I (Nat.le_refl _)).R (Nat.le_refl _)).frk hlt
  refine V.aload_n (i := 0) dX5_setTrait_0 rfl rfl ?_
  refine V.getS dX5_setTrait_1 fl_X5_11 rfl (hR.H.at i hi).2 (hR.H.lat i hi).1 ?_
  refine V.iload_n (i := 1) dX5_setTrait_4 rfl rfl ?_
  refine V.new (ci := 8) dX5_setTrait_5 (by decide) wk_X5_9 wx_X8 wn_X8 (by decide) (by decide) ?_
  refine V.dup dX5_setTrait_8 rfl ?_
  refine V.iload_n (i := 2) dX5_setTrait_9 rfl rfl ?_
  refine V.iload_n (i := 3) dX5_setTrait_10 rfl rfl ?_
  refine V.aload_n (i := 0) dX5_setTrait_11 rfl rfl ?_
  refine V.getS dX5_setTrait_12 fl_X5_11 rfl (fN.tag (hR.H.at i hi).2 (by decide)) ((fN.ref 4 (hR.H.at i hi).2 (by decide) rfl).trans (hR.H.lat i hi).1) ?_
  refine V.iload_n (i := 1) dX5_setTrait_15 rfl rfl ?_
  refine V.aaldS (t := 36) dX5_setTrait_16 (fN.tag (hR.H.lat i hi).2 (by decide)) (by decide) (by decide) rfl (show _ < 3 from hw) (by decide) ((fN.ref w (hR.H.lat i hi).2 (by decide) rfl).trans hp1) ?_
  refine V.ci3U dX5_setTrait_17 lk_X5_43 (k_traitInit (σ := wN σ 9) (a := sN σ) (if_pos rfl) _ _ ⟨rfl, rfl⟩) (by decide) (by decide) (Nat.le_of_ble_eq_true rfl) (Nat.le_of_ble_eq_true rfl) (Nat.le_of_ble_eq_true rfl) ?_
  refine V.aast (t := 36) dX5_setTrait_20 (fT.tag (hR.H.lat i hi).2 (by decide)) (by decide) (by decide) rfl (show _ < 3 from hw) (by decide) (show sT (wN σ 9) (sN σ) = 9 from if_pos rfl) ?_
  refine V.vret dX5_setTrait_21 (Nat.le_of_ble_eq_true rfl) (Nat.le_of_ble_eq_true rfl) ?_
  exact hp
theorem chn_c {G G' : GS} {i w : Nat} (h5 : G' 5 (3 * i + w) = G 5 (3 * i + w)) : ∀ c p, (∀ k, k < c → G' 7 k = G 7 k ∧ G' 8 k = G 8 k ∧ G' 9 k = G 9 k) → (chn σ G' i w c p ↔ chn σ G i w c p)
  | 0, p, _ => by unfold chn; rw [h5]
  | c + 1, p, h => by
    have e := h c (by omega)
    have ih := fun p => chn_c h5 c p (fun k hk => h k (by omega))
    unfold chn
    rw [e.1, e.2.1, e.2.2]
    by_cases q : G 7 c = nI (3 * i + w)
    · rw [if_pos q, if_pos q]
      constructor
      · rintro ⟨a, b, d, p2, r, s⟩
        exact ⟨a, b, d, p2, r, (ih p2).mp s⟩
      · rintro ⟨a, b, d, p2, r, s⟩
        exact ⟨a, b, d, p2, r, (ih p2).mpr s⟩
    · rw [if_neg q, if_neg q]
      exact ih p
def chG (G : GS) (i w : Nat) (v : Int32) : GS := u2 (u2 (u2 (u2 G 7 (nCh G) (nI (3 * i + w))) 8 (nCh G) (G 0 0)) 9 (nCh G) v) 6 0 (nI (nCh G + 1))
theorem chG_7 (G : GS) (i w : Nat) (v : Int32) (c : Nat) : chG G i w v 7 c = if c = nCh G then nI (3 * i + w) else G 7 c := u2_at (G := G) (k := 7)
theorem chG_8 (G : GS) (i w : Nat) (v : Int32) (c : Nat) : chG G i w v 8 c = if c = nCh G then G 0 0 else G 8 c := u2_at (G := G) (k := 8)
theorem chG_9 (G : GS) (i w : Nat) (v : Int32) (c : Nat) : chG G i w v 9 c = if c = nCh G then v else G 9 c := u2_at (G := G) (k := 9)
theorem change_rp {i w p : Nat} {v : Int32} (hR : Rp σ x P G) (hI : Inv G) (hlt : ∀ a, sT σ a ≠ 0 → a < sN σ) (hi : i < nSh G) (hw : w < 3) (hn : nCh G < 60) (hp1 : sR σ 36 (P 2 i) w = some p) (hp2 : chn σ G i w (nCh G) p) :
    Rp (wI (wR (trS (wN σ 9) (sN σ) (G 0 0) v (some p)) 36 (P 2 i) w (some (sN σ))) 11 x 2 (nI (nCh G + 1))) x P (chG G i w v) := by
  have h16 := hI.shN.2
  have fT : frk (fun _ _ => true) (fun _ _ => true) σ (trS (wN σ 9) (sN σ) (G 0 0) v (some p)) := (((((nw.rfl').N 9).I (Nat.le_refl _)).I (Nat.le_refl _)).R (Nat.le_refl _)).frk hlt
  have f : frk (fun t k => !(decide (t = 11) && decide (k = 2))) (fun t _ => decide (t ≠ 36)) σ (wI (wR (trS (wN σ 9) (sN σ) (G 0 0) v (some p)) 36 (P 2 i) w (some (sN σ))) 11 x 2 (nI (nCh G + 1))) := (fT.all.trans (frk.wR rfl)).trans (frk.wI rfl)
  have eN : nCh (chG G i w v) = nCh G + 1 := tn_nI (by omega)
  have t1 : sT (wI (wR (trS (wN σ 9) (sN σ) (G 0 0) v (some p)) 36 (P 2 i) w (some (sN σ))) 11 x 2 (nI (nCh G + 1))) (sN σ) = 9 := if_pos rfl
  have v0 : sI (wI (wR (trS (wN σ 9) (sN σ) (G 0 0) v (some p)) 36 (P 2 i) w (some (sN σ))) 11 x 2 (nI (nCh G + 1))) 9 (sN σ) 0 = G 0 0 := by simp [trS, sI_wI, sI_wR]
  have v1 : sI (wI (wR (trS (wN σ 9) (sN σ) (G 0 0) v (some p)) 36 (P 2 i) w (some (sN σ))) 11 x 2 (nI (nCh G + 1))) 9 (sN σ) 1 = v := by simp [trS, sI_wI, sI_wR]
  have v2 : sR (wI (wR (trS (wN σ 9) (sN σ) (G 0 0) v (some p)) 36 (P 2 i) w (some (sN σ))) 11 x 2 (nI (nCh G + 1))) 9 (sN σ) 2 = some p := by simp [trS, sR_wI, sR_wR]
  have v3 : ∀ a k, sR (wI (wR (trS (wN σ 9) (sN σ) (G 0 0) v (some p)) 36 (P 2 i) w (some (sN σ))) 11 x 2 (nI (nCh G + 1))) 36 a k = if a = P 2 i ∧ k = w then some (sN σ) else sR (trS (wN σ 9) (sN σ) (G 0 0) v (some p)) 36 a k := fun a k => by
    rw [sR_wI, sR_wR]
    simp
  have v4 : sI (wI (wR (trS (wN σ 9) (sN σ) (G 0 0) v (some p)) 36 (P 2 i) w (some (sN σ))) 11 x 2 (nI (nCh G + 1))) 11 x 2 = nI (nCh G + 1) := by rw [sI_wI, if_pos ⟨rfl, rfl, rfl⟩]
  generalize hσ' : wI (wR (trS (wN σ 9) (sN σ) (G 0 0) v (some p)) 36 (P 2 i) w (some (sN σ))) 11 x 2 (nI (nCh G + 1)) = σ' at f t1 v0 v1 v2 v3 v4 ⊢
  have old : ∀ k, k < nCh G → chG G i w v 7 k = G 7 k ∧ chG G i w v 8 k = G 8 k ∧ chG G i w v 9 k = G 9 k := fun k hk => by rw [chG_7, chG_8, chG_9, if_neg (by omega), if_neg (by omega), if_neg (by omega)]; exact ⟨rfl, rfl, rfl⟩
  have hch : SH_chain σ' P (chG G i w v) := by
    intro j hj u hu
    replace hj : j < nSh G := hj
    obtain ⟨p0, a0, b0⟩ := hR.H.chain j hj u hu
    have b1 : chn σ' (chG G i w v) j u (nCh G) p0 := (chn_c (G := G) (G' := chG G i w v) rfl _ _ old).mpr (b0.k f rfl rfl rfl)
    rw [eN, v3]
    by_cases q : j = i ∧ u = w
    · obtain ⟨rfl, rfl⟩ := q
      have ep : p0 = p := Option.some.inj (a0.symm.trans hp1)
      subst ep
      refine ⟨sN σ, if_pos ⟨rfl, rfl⟩, ?_⟩
      unfold chn
      rw [chG_7, chG_8, chG_9, if_pos rfl, if_pos rfl, if_pos rfl, if_pos rfl]
      exact ⟨t1, v0, v1, p0, v2, b1⟩
    · refine ⟨p0, ?_, ?_⟩
      · rw [if_neg (fun z => q ⟨hR.J.1 j i hj hi z.1, z.2⟩)]
        exact (fT.ref u (hR.H.lat j hj).2 (by decide) rfl).trans a0
      · unfold chn
        rw [chG_7, if_pos rfl, if_neg (fun e => q (by
          have := (nI_eq (by omega) (by omega)).mp e
          constructor <;> omega))]
        exact b1
  have hH : SH σ' P (chG G i w v) := ⟨(SH_at.k (P := P) (G := G) hR.H hR.F f (fun _ => rfl) rfl), (SH_no.k (P := P) (G := G) hR.H hR.F f rfl rfl), (SH_kind.k (P := P) (G := G) hR.H hR.F f rfl rfl rfl), (SH_soc.k (P := P) (G := G) hR.H hR.F f rfl rfl rfl), (SH_built.k (P := P) (G := G) hR.H hR.F f rfl rfl rfl), (SH_lat.k (P := P) (G := G) hR.H hR.F f rfl rfl), (SH_week.k (P := P) (G := G) hR.H hR.F f rfl rfl), (SH_days.k (P := P) (G := G) hR.H hR.F f rfl rfl), (SH_rest.k (P := P) (G := G) hR.H hR.F f (fun _ => rfl) rfl rfl), (SH_berth.k (P := P) (G := G) hR.H hR.F f rfl rfl rfl rfl rfl), (SH_last.k (P := P) (G := G) hR.H hR.F f rfl rfl rfl rfl rfl rfl), (SH_since.k (P := P) (G := G) hR.H hR.F f rfl rfl rfl rfl), (SH_bans.k (P := P) (G := G) hR.H hR.F f rfl rfl rfl), hch⟩
  have hS : SC σ' x P (chG G i w v) := ⟨((f.num 1 hR.F.x (by decide) rfl).trans hR.S.shipN), v4, ((f.num 5 hR.F.x (by decide) rfl).trans hR.S.caN), ((f.num 7 hR.F.x (by decide) rfl).trans hR.S.lkN), ((f.num 9 hR.F.x (by decide) rfl).trans hR.S.trN), ((f.num 11 hR.F.x (by decide) rfl).trans hR.S.day), ((f.num 12 hR.F.x (by decide) rfl).trans hR.S.mon), ((f.num 13 hR.F.x (by decide) rfl).trans hR.S.drN), ((f.num 15 hR.F.x (by decide) rfl).trans hR.S.wtN), ((f.num 1 hR.F.owners.2 (by decide) rfl).trans hR.S.wdN), ((f.num 1 hR.F.tape.2 (by decide) rfl).trans hR.S.tpN), (fun j hj => (f.num j hR.F.bytes.2 (by decide) rfl).trans (hR.S.tp j hj)), (fun j hj => (f.num j hR.F.wait.2 (by decide) rfl).trans (hR.S.wt j hj)), (fun j hj => (f.num j hR.F.fnds.2 (by decide) rfl).trans (hR.S.fd j hj))⟩
  exact ⟨(hR.F.k f (fun _ => rfl) rfl rfl (fun _ => rfl)), hS, (hR.O.k hR.F f (fun _ => rfl) rfl rfl rfl), hH, ⟨(CA_at.k (P := P) (G := G) hR.C hR.F f (fun _ => rfl) rfl), (CA_no.k (P := P) (G := G) hR.C hR.F f rfl rfl), (CA_ship.k (P := P) (G := G) hR.C hR.F f rfl rfl rfl), (CA_port.k (P := P) (G := G) hR.C hR.F f rfl rfl rfl), (CA_from_.k (P := P) (G := G) hR.C hR.F f rfl rfl rfl), (CA_over.k (P := P) (G := G) hR.C hR.F f rfl rfl rfl), (CA_held.k (P := P) (G := G) hR.C hR.F f rfl rfl rfl), (CA_lks.k (P := P) (G := G) hR.C hR.F f rfl rfl rfl rfl)⟩, ⟨(LO_at.k (P := P) (G := G) hR.L hR.F f (fun _ => rfl) rfl), (LO_call.k (P := P) (G := G) hR.L hR.F f rfl rfl rfl), (LO_by_.k (P := P) (G := G) hR.L hR.F f rfl rfl rfl), (LO_on_.k (P := P) (G := G) hR.L hR.F f rfl rfl rfl), (LO_flt.k (P := P) (G := G) hR.L hR.F f rfl rfl rfl), (LO_hold.k (P := P) (G := G) hR.L hR.F f rfl rfl rfl), (LO_chance.k (P := P) (G := G) hR.L hR.F f rfl rfl rfl)⟩, ⟨(TR_at.k (P := P) (G := G) hR.T hR.F f (fun _ => rfl) rfl), (TR_from_.k (P := P) (G := G) hR.T hR.F f rfl rfl rfl), (TR_wts.k (P := P) (G := G) hR.T hR.F f rfl rfl), (TR_grv.k (P := P) (G := G) hR.T hR.F f rfl rfl), (TR_lim.k (P := P) (G := G) hR.T hR.F f rfl rfl rfl), (TR_wt.k (P := P) (G := G) hR.T hR.F f (fun _ => rfl) rfl rfl), (TR_gr.k (P := P) (G := G) hR.T hR.F f (fun _ => rfl) rfl rfl)⟩, (hR.J.e rfl rfl)⟩
set_option maxRecDepth 100000 in
theorem k_change (hR : Rp σ x P G) (hI : Inv G) (s w v : Int32) (hp : PU x σ (s_change G s w v) post) : MX10_change E 3 8 64 [.ref x, .int s, .int w, .int v] σ post := by
  refine MA.of RX10 "change" [some (.ref x), some (.int s), some (.int w), some (.int v), none, none] rfl rfl rfl (catAll rfl) (Nat.le_of_ble_eq_true rfl) rfl (fun X => ?_)
  refine V.lt (fun hlt => ?_)
  have h16 := hI.shN.2
  have h60 := hI.chN
  by_cases hs : 0 ≤ s.toInt ∧ s.toInt < nSh G
  · obtain ⟨i, hi, rfl⟩ := idxOf hs
    refine V.aload_n (i := 0) dX10_change_0 rfl rfl ?_
    refine V.iload_n (i := 1) dX10_change_1 rfl rfl ?_
    refine V.cv1D (ci := 10) dX10_change_2 lk_X10_92 (by decide) rfl hR.F.x (k_shipAtY hR hI i hi ⟨rfl, rfl⟩) (by decide) (by decide) (Nat.le_of_ble_eq_true rfl) (Nat.le_of_ble_eq_true rfl) (Nat.le_of_ble_eq_true rfl) ?_
    refine V.astore4 (by decide) dX10_change_5 ?_
    refine V.aload (i := 4) dX10_change_7 rfl ?_
    refine V.ifnull dX10_change_9 ?_
    refine V.iload_n (i := 2) dX10_change_12 rfl rfl ?_
    refine V.iconst dX10_change_13 ic_3 ?_
    refine V.cs2D dX10_change_14 lk_X10_96 (k_isBelowN _ 3 (by decide) ⟨rfl, rfl⟩) (by decide) (by decide) (Nat.le_of_ble_eq_true rfl) (Nat.le_of_ble_eq_true rfl) (Nat.le_of_ble_eq_true rfl) ?_
    refine V.ifb_eq (tgt := 31) dX10_change_17 rfl (fun c17 => ?_) (fun c17 => ?_)
    · refine V.aload_n (i := 0) dX10_change_31 rfl rfl ?_
      refine V.iconst dX10_change_32 ic_1 ?_
      refine V.cv1D (ci := 10) dX10_change_33 lk_X10_82 (by decide) rfl hR.F.x (k_finding hR _ (by decide) ⟨rfl, rfl⟩) (by decide) (by decide) (Nat.le_of_ble_eq_true rfl) (Nat.le_of_ble_eq_true rfl) (Nat.le_of_ble_eq_true rfl) ?_
      refine V.iret dX10_change_36 (Nat.le_of_ble_eq_true rfl) (Nat.le_of_ble_eq_true rfl) ?_
      first | exact puF hp (if_neg (by omega)) hR rfl | exact puF hp (if_neg (by rw [show tn (nI j) = j from tn_nI (by omega)]; omega)) hR rfl
    · obtain ⟨j, hj, rfl⟩ := idxOf c17
      have htop := topOf_lt j
      have ht99 : topOf j ≤ 99 := (by unfold topOf; split; omega; split <;> omega)
      refine V.iload_n (i := 3) dX10_change_20 rfl rfl ?_
      refine V.iload_n (i := 2) dX10_change_21 rfl rfl ?_
      refine V.cs1D dX10_change_22 lk_X10_109 (k_valuesOf j hj ⟨rfl, rfl⟩) (by decide) (by decide) (Nat.le_of_ble_eq_true rfl) (Nat.le_of_ble_eq_true rfl) (Nat.le_of_ble_eq_true rfl) ?_
      refine V.cs2D dX10_change_25 lk_X10_96 (k_isBelowN _ (topOf j + 1) (by omega) ⟨rfl, rfl⟩) (by decide) (by decide) (Nat.le_of_ble_eq_true rfl) (Nat.le_of_ble_eq_true rfl) (Nat.le_of_ble_eq_true rfl) ?_
      refine V.ifb_ne (tgt := 37) dX10_change_28 rfl (fun c28 => ?_) (fun c28 => ?_)
      · have hz : s_change G (nI i) (nI j) v = (if nCh G = 60 then fnd G 4 else (hadOn G i j (G 0 0), chG G i j v)) := by unfold s_change; rw [tn_nI (by omega), tn_nI (by omega), if_pos (by omega)]; rfl
        refine V.aload_n (i := 0) dX10_change_37 rfl rfl ?_
        refine V.geti dX10_change_38 fl_X10_112 rfl hR.F.x ?_
        refine V.as _ (hR.S.chN.trans h60.1) ?_
        refine V.bipush dX10_change_41 bc_60 ?_
        refine V.icmp_lt (tgt := 52) dX10_change_43 rfl (fun c43 => ?_) (fun c43 => ?_)
        · rw [nI_ltI (by omega) (by decide)] at c43
          refine V.aload (i := 4) dX10_change_52 rfl ?_
          refine V.iload_n (i := 2) dX10_change_54 rfl rfl ?_
          refine V.aload_n (i := 0) dX10_change_55 rfl rfl ?_
          refine V.geti dX10_change_56 fl_X10_79 rfl hR.F.x ?_
          refine V.as _ hR.S.day ?_
          refine V.cv2D (ci := 5) dX10_change_59 lk_X10_115 (by decide) rfl (hR.H.at i hi).2 (k_traitOn hR i j _ hi hj ⟨rfl, rfl⟩) (by decide) (by decide) (Nat.le_of_ble_eq_true rfl) (Nat.le_of_ble_eq_true rfl) (Nat.le_of_ble_eq_true rfl) ?_
          refine V.istore5 (by decide) dX10_change_62 ?_
          obtain ⟨p, hp1, hp2⟩ := hR.H.chain i hi j hj
          refine V.aload (i := 4) dX10_change_64 rfl ?_
          refine V.iload_n (i := 2) dX10_change_66 rfl rfl ?_
          refine V.aload_n (i := 0) dX10_change_67 rfl rfl ?_
          refine V.geti dX10_change_68 fl_X10_79 rfl hR.F.x ?_
          refine V.as _ hR.S.day ?_
          refine V.iload_n (i := 3) dX10_change_71 rfl rfl ?_
          refine V.cv3U (ci := 5) dX10_change_72 lk_X10_119 (by decide) rfl (hR.H.at i hi).2 (k_setTrait hR hlt hi hj hp1 _ _ ⟨rfl, rfl⟩) (by decide) (by decide) (Nat.le_of_ble_eq_true rfl) (Nat.le_of_ble_eq_true rfl) (Nat.le_of_ble_eq_true rfl) ?_
          have fT : frk (fun _ _ => true) (fun t _ => decide (t ≠ 36)) σ (wR (trS (wN σ 9) (sN σ) (G 0 0) v (some p)) 36 (P 2 i) j (some (sN σ))) := ((((((nw.rfl').N 9).I (Nat.le_refl _)).I (Nat.le_refl _)).R (Nat.le_refl _)).frk hlt).trans (frk.wR rfl)
          refine V.aload_n (i := 0) dX10_change_75 rfl rfl ?_
          refine V.dup dX10_change_76 rfl ?_
          refine V.geti dX10_change_77 fl_X10_112 rfl (fT.tag hR.F.x (by decide)) ?_
          refine V.as (nI (nCh G)) ((fT.num 2 hR.F.x (by decide) rfl).trans (hR.S.chN.trans h60.1)) ?_
          refine V.iconst dX10_change_80 ic_1 ?_
          refine V.iadd dX10_change_81 ?_
          refine V.as _ (nI_add _ _) ?_
          refine V.puti dX10_change_82 fl_X10_112 rfl rfl (fT.tag hR.F.x (by decide)) ?_
          refine V.iload (i := 5) dX10_change_85 rfl ?_
          refine V.iret dX10_change_87 (Nat.le_of_ble_eq_true rfl) (Nat.le_of_ble_eq_true rfl) ?_
          exact pu hp (hz.trans (if_neg (by omega))) (change_rp hR hI hlt hi hj c43 hp1 hp2) rfl
        · rw [nI_ltI (by omega) (by decide)] at c43
          refine V.aload_n (i := 0) dX10_change_46 rfl rfl ?_
          refine V.iconst dX10_change_47 ic_4 ?_
          refine V.cv1D (ci := 10) dX10_change_48 lk_X10_82 (by decide) rfl hR.F.x (k_finding hR _ (by decide) ⟨rfl, rfl⟩) (by decide) (by decide) (Nat.le_of_ble_eq_true rfl) (Nat.le_of_ble_eq_true rfl) (Nat.le_of_ble_eq_true rfl) ?_
          refine V.iret dX10_change_51 (Nat.le_of_ble_eq_true rfl) (Nat.le_of_ble_eq_true rfl) ?_
          exact puF hp (hz.trans (if_pos (by omega))) hR rfl
      · refine V.aload_n (i := 0) dX10_change_31 rfl rfl ?_
        refine V.iconst dX10_change_32 ic_1 ?_
        refine V.cv1D (ci := 10) dX10_change_33 lk_X10_82 (by decide) rfl hR.F.x (k_finding hR _ (by decide) ⟨rfl, rfl⟩) (by decide) (by decide) (Nat.le_of_ble_eq_true rfl) (Nat.le_of_ble_eq_true rfl) (Nat.le_of_ble_eq_true rfl) ?_
        refine V.iret dX10_change_36 (Nat.le_of_ble_eq_true rfl) (Nat.le_of_ble_eq_true rfl) ?_
        first | exact puF hp (if_neg (by omega)) hR rfl | exact puF hp (if_neg (by rw [show tn (nI j) = j from tn_nI (by omega)]; omega)) hR rfl
  · skip
    refine V.aload_n (i := 0) dX10_change_0 rfl rfl ?_
    refine V.iload_n (i := 1) dX10_change_1 rfl rfl ?_
    refine V.cv1D (ci := 10) dX10_change_2 lk_X10_92 (by decide) rfl hR.F.x (k_shipAtN hR hI s hs ⟨rfl, rfl⟩) (by decide) (by decide) (Nat.le_of_ble_eq_true rfl) (Nat.le_of_ble_eq_true rfl) (Nat.le_of_ble_eq_true rfl) ?_
    refine V.astore4N (by decide) dX10_change_5 ?_
    refine V.aloadN (i := 4) dX10_change_7 rfl ?_
    refine V.ifnullN (tgt := 31) dX10_change_9 rfl ?_
    refine V.aload_n (i := 0) dX10_change_31 rfl rfl ?_
    refine V.iconst dX10_change_32 ic_1 ?_
    refine V.cv1D (ci := 10) dX10_change_33 lk_X10_82 (by decide) rfl hR.F.x (k_finding hR _ (by decide) ⟨rfl, rfl⟩) (by decide) (by decide) (Nat.le_of_ble_eq_true rfl) (Nat.le_of_ble_eq_true rfl) (Nat.le_of_ble_eq_true rfl) ?_
    refine V.iret dX10_change_36 (Nat.le_of_ble_eq_true rfl) (Nat.le_of_ble_eq_true rfl) ?_
    exact puF hp (if_neg (fun z => hs z.1)) hR rfl
def wkS (τ : Sg) (a : Nat) : Sg := wR (wN τ 21) 5 a 0 (some (sN τ))
set_option maxRecDepth 100000 in
theorem k_weekInit {a : Nat} (ht : sT σ a = 5) (hlt : a < sN σ) (hp : post none (wkS σ a)) : MX4_init E 1 1 7 [.ref a] σ post := by
  refine MA.of RX4 "<init>" [some (.ref a)] rfl rfl rfl (catAll rfl) (Nat.le_of_ble_eq_true rfl) rfl (fun X => ?_)
  refine V.aload_n (i := 0) dX4_init_0 rfl rfl ?_
  refine V.objInit dX4_init_1 wm_X4_3 wi_objectInit wc_objectInit (Nat.le_of_ble_eq_true rfl) (by decide) ?_
  refine V.aload_n (i := 0) dX4_init_4 rfl rfl ?_
  refine V.bipush dX4_init_5 bc_7 ?_
  refine V.newa 21 dX4_init_7 rfl wa_int (by decide) (by decide) rfl (by decide) (by decide) (by decide) ?_
  refine V.putFr dX4_init_9 fl_X4_9 rfl rfl rfl rfl (show sT (wN σ 21) a = 5 by rw [sT_wN, if_neg (by omega)]; exact ht) ?_
  refine V.vret dX4_init_12 (Nat.le_of_ble_eq_true rfl) (Nat.le_of_ble_eq_true rfl) ?_
  exact hp
/-- a ship's cells: itself at a, then N its latest, N + 1 its week, N + 2 the days, N + 3 .. its first traits -/
def sh2 (τ : Sg) (a : Nat) : Sg := wR (wkS (wN (wR (wN τ 36) 6 a 4 (some (sN τ))) 5) (sN τ + 1)) 6 a 5 (some (sN τ + 1))
def sh3 (τ : Sg) (a : Nat) (n k c b : Int32) : Sg := wI (wI (wI (wI (wI (wI (sh2 τ a) 6 a 7 (-1)) 6 a 8 (-1)) 6 a 0 n) 6 a 1 k) 6 a 2 c) 6 a 3 b
def sh4 (τ : Sg) (a : Nat) (n k c b nm : Int32) : Sg := wR (trS (wN (sh3 τ a n k c b) 9) (sN τ + 3) (nI 0) nm none) 36 (sN τ) 0 (some (sN τ + 3))
def sh5 (τ : Sg) (a : Nat) (n k c b nm ow : Int32) : Sg := wR (trS (wN (sh4 τ a n k c b nm) 9) (sN τ + 4) (nI 0) ow none) 36 (sN τ) 2 (some (sN τ + 4))
def shS (τ : Sg) (a : Nat) (n k c b nm ow fl : Int32) : Sg := wR (trS (wN (sh5 τ a n k c b nm ow) 9) (sN τ + 5) (nI 0) fl none) 36 (sN τ) 1 (some (sN τ + 5))
set_option maxRecDepth 100000 in
theorem k_shipInit {a : Nat} (ht : sT σ a = 6) (hlt : a < sN σ) (n b : Int32) (of as : Nat) (ho : of < 40) (has : as < 10000) (hp : post none (shS σ a n (nI (of / 10)) (nI (of % 10)) b (nI (as / 100)) (nI (as / 10 % 10)) (nI (as % 10)))) : MX5_init E 2 6 20 [.ref a, .int n, .int (nI of), .int (nI as), .int b] σ post := by
  refine MA.of RX5 "<init>" [some (.ref a), some (.int n), some (.int (nI of)), some (.int (nI as)), some (.int b)] rfl rfl rfl (catAll rfl) (Nat.le_of_ble_eq_true rfl) rfl (fun X => ?_)
  have hN : sN σ ≠ a := by omega
  have ta1 : sT (wN σ 36) a = 6 := by rw [sT_wN, if_neg (by omega)]; exact ht
  have ta2 : sT (wN (wR (wN σ 36) 6 a 4 (some (sN σ))) 5) a = 6 := by
    show (if a = sN σ + 1 then 5 else sT (wN σ 36) a) = 6
    rw [if_neg (by omega)]; exact ta1
  have ta3 : sT (sh2 σ a) a = 6 := by
    show (if a = sN σ + 1 + 1 then 21 else sT (wN (wR (wN σ 36) 6 a 4 (some (sN σ))) 5) a) = 6
    rw [if_neg (by omega)]; exact ta2
  have r4 : sR (sh2 σ a) 6 a 4 = some (sN σ) := by simp [sh2, wkS, sR_wR, sR_wN, sN_wR, sN_wN, show ¬ a = sN σ + 1 + 1 by omega, show ¬ a = sN σ + 1 by omega, show ¬ a = sN σ by omega]
  have tN : sT (sh2 σ a) (sN σ) = 36 := by
    show (if sN σ = sN σ + 1 + 1 then 21 else if sN σ = sN σ + 1 then 5 else if sN σ = sN σ then 36 else sT σ (sN σ)) = 36
    rw [if_neg (by omega), if_neg (by omega), if_pos rfl]
  have ta4 : ∀ k c nm, sT (sh4 σ a n k c b nm) a = 6 := fun k c nm => by
    show (if a = sN σ + 1 + 1 + 1 then 9 else sT (sh2 σ a) a) = 6
    rw [if_neg (by omega)]; exact ta3
  have tN4 : ∀ k c nm, sT (sh4 σ a n k c b nm) (sN σ) = 36 := fun k c nm => by
    show (if sN σ = sN σ + 1 + 1 + 1 then 9 else sT (sh2 σ a) (sN σ)) = 36
    rw [if_neg (by omega)]; exact tN
  have r44 : ∀ k c nm, sR (sh4 σ a n k c b nm) 6 a 4 = some (sN σ) := fun k c nm => by
    simp [sh4, trS, sh3, sR_wR, sR_wI, sR_wN]
    exact r4
  have ta5 : ∀ k c nm ow, sT (sh5 σ a n k c b nm ow) a = 6 := fun k c nm ow => by
    show (if a = sN σ + 1 + 1 + 1 + 1 then 9 else sT (sh4 σ a n k c b nm) a) = 6
    rw [if_neg (by omega)]; exact ta4 _ _ _
  have tN5 : ∀ k c nm ow, sT (sh5 σ a n k c b nm ow) (sN σ) = 36 := fun k c nm ow => by
    show (if sN σ = sN σ + 1 + 1 + 1 + 1 then 9 else sT (sh4 σ a n k c b nm) (sN σ)) = 36
    rw [if_neg (by omega)]; exact tN4 _ _ _
  have r45 : ∀ k c nm ow, sR (sh5 σ a n k c b nm ow) 6 a 4 = some (sN σ) := fun k c nm ow => by
    simp [sh5, trS, sR_wR, sR_wI, sR_wN]
    exact r44 _ _ _
  refine V.aload_n (i := 0) dX5_init_0 rfl rfl ?_
  refine V.objInit dX5_init_1 wm_X5_3 wi_objectInit wc_objectInit (Nat.le_of_ble_eq_true rfl) (by decide) ?_
  refine V.aload_n (i := 0) dX5_init_4 rfl rfl ?_
  refine V.iconst dX5_init_5 ic_3 ?_
  refine V.newq 36 dX5_init_6 wk_X5_9 (by decide) (by decide) rfl (by decide) (by decide) (by decide) ?_
  refine V.putFr dX5_init_9 fl_X5_11 rfl rfl rfl rfl ta1 ?_
  refine V.aload_n (i := 0) dX5_init_12 rfl rfl ?_
  refine V.new (ci := 4) dX5_init_13 (by decide) wk_X5_17 wx_X4 wn_X4 (by decide) (by decide) ?_
  refine V.dup dX5_init_16 rfl ?_
  refine V.cin0U dX5_init_17 lk_X5_19 (k_weekInit (σ := wN (wR (wN σ 36) 6 a 4 (some (sN σ))) 5) (a := sN σ + 1) (if_pos rfl) (Nat.lt_succ_self _) ⟨rfl, rfl⟩) (by decide) (by decide) (Nat.le_of_ble_eq_true rfl) (Nat.le_of_ble_eq_true rfl) (Nat.le_of_ble_eq_true rfl) ?_
  refine V.sts (σ' := wkS (wN (wR (wN σ 36) 6 a 4 (some (sN σ))) 5) (sN σ + 1)) rfl ?_
  refine V.putFr dX5_init_20 fl_X5_20 rfl rfl rfl rfl ta3 ?_
  refine V.sts (σ' := sh2 σ a) rfl ?_
  refine V.aload_n (i := 0) dX5_init_23 rfl rfl ?_
  refine V.iconst dX5_init_24 ic_m1 ?_
  refine V.puti dX5_init_25 fl_X5_24 rfl rfl ta3 ?_
  refine V.aload_n (i := 0) dX5_init_28 rfl rfl ?_
  refine V.iconst dX5_init_29 ic_m1 ?_
  refine V.puti dX5_init_30 fl_X5_28 rfl rfl ta3 ?_
  refine V.aload_n (i := 0) dX5_init_33 rfl rfl ?_
  refine V.iload_n (i := 1) dX5_init_34 rfl rfl ?_
  refine V.putFi dX5_init_35 fl_X5_31 rfl rfl rfl rfl ta3 ?_
  refine V.aload_n (i := 0) dX5_init_38 rfl rfl ?_
  refine V.iload_n (i := 2) dX5_init_39 rfl rfl ?_
  refine V.bipush dX5_init_40 bc_10 ?_
  refine V.idiv dX5_init_42 (by decide) ?_
  refine V.as _ (pk_div (by omega) (by decide) (by decide)) ?_
  refine V.putFi dX5_init_43 fl_X5_34 rfl rfl rfl rfl ta3 ?_
  refine V.aload_n (i := 0) dX5_init_46 rfl rfl ?_
  refine V.iload_n (i := 2) dX5_init_47 rfl rfl ?_
  refine V.bipush dX5_init_48 bc_10 ?_
  refine V.irem dX5_init_50 (by decide) ?_
  refine V.as _ (pk_rem (by omega) (by decide) (by decide)) ?_
  refine V.putFi dX5_init_51 fl_X5_37 rfl rfl rfl rfl ta3 ?_
  refine V.aload_n (i := 0) dX5_init_54 rfl rfl ?_
  refine V.iload (i := 4) dX5_init_55 rfl ?_
  refine V.putFi dX5_init_57 fl_X5_40 rfl rfl rfl rfl ta3 ?_
  refine V.sts (σ' := sh3 σ a n (nI (of / 10)) (nI (of % 10)) b) rfl ?_
  refine V.aload_n (i := 0) dX5_init_60 rfl rfl ?_
  refine V.getS dX5_init_61 fl_X5_11 rfl ta3 (show sR (sh2 σ a) 6 a 4 = some (sN σ) from r4) ?_
  refine V.iconst dX5_init_64 ic_0 ?_
  refine V.new (ci := 8) dX5_init_65 (by decide) wk_X5_9 wx_X8 wn_X8 (by decide) (by decide) ?_
  refine V.dup dX5_init_68 rfl ?_
  refine V.iconst dX5_init_69 ic_0 ?_
  refine V.iload_n (i := 3) dX5_init_70 rfl rfl ?_
  refine V.bipush dX5_init_71 bc_100 ?_
  refine V.idiv dX5_init_73 (by decide) ?_
  refine V.as _ (pk_div (by omega) (by decide) (by decide)) ?_
  refine V.null dX5_init_74 ?_
  refine V.ci3U dX5_init_75 lk_X5_43 (k_traitInitN (σ := wN (sh3 σ a n (nI (of / 10)) (nI (of % 10)) b) 9) (a := sN σ + 3) (if_pos rfl) _ _ ⟨rfl, rfl⟩) (by decide) (by decide) (Nat.le_of_ble_eq_true rfl) (Nat.le_of_ble_eq_true rfl) (Nat.le_of_ble_eq_true rfl) ?_
  refine V.aast (t := 36) dX5_init_78 (show sT (wN (sh3 σ a n (nI (of / 10)) (nI (of % 10)) b) 9) (sN σ) = 36 from tN4 (nI (of / 10)) (nI (of % 10)) (nI 0)) (by decide) (by decide) rfl (show _ < 3 from (by omega)) (by decide) (show sT (wN (sh3 σ a n (nI (of / 10)) (nI (of % 10)) b) 9) (sN σ + 3) = 9 from if_pos rfl) ?_
  refine V.sts (σ' := sh4 σ a n (nI (of / 10)) (nI (of % 10)) b (nI (as / 100))) rfl ?_
  refine V.aload_n (i := 0) dX5_init_79 rfl rfl ?_
  refine V.getS dX5_init_80 fl_X5_11 rfl (ta4 _ _ _) (r44 _ _ _) ?_
  refine V.iconst dX5_init_83 ic_2 ?_
  refine V.new (ci := 8) dX5_init_84 (by decide) wk_X5_9 wx_X8 wn_X8 (by decide) (by decide) ?_
  refine V.dup dX5_init_87 rfl ?_
  refine V.iconst dX5_init_88 ic_0 ?_
  refine V.iload_n (i := 3) dX5_init_89 rfl rfl ?_
  refine V.bipush dX5_init_90 bc_10 ?_
  refine V.idiv dX5_init_92 (by decide) ?_
  refine V.as _ (pk_div (by omega) (by decide) (by decide)) ?_
  refine V.bipush dX5_init_93 bc_10 ?_
  refine V.irem dX5_init_95 (by decide) ?_
  refine V.as _ (pk_rem (by omega) (by decide) (by decide)) ?_
  refine V.null dX5_init_96 ?_
  refine V.ci3U dX5_init_97 lk_X5_43 (k_traitInitN (σ := wN (sh4 σ a n (nI (of / 10)) (nI (of % 10)) b (nI (as / 100))) 9) (a := sN σ + 4) (if_pos rfl) _ _ ⟨rfl, rfl⟩) (by decide) (by decide) (Nat.le_of_ble_eq_true rfl) (Nat.le_of_ble_eq_true rfl) (Nat.le_of_ble_eq_true rfl) ?_
  refine V.aast (t := 36) dX5_init_100 (show sT (wN (sh4 σ a n (nI (of / 10)) (nI (of % 10)) b (nI (as / 100))) 9) (sN σ) = 36 from tN5 (nI (of / 10)) (nI (of % 10)) (nI (as / 100)) (nI 0)) (by decide) (by decide) rfl (show _ < 3 from (by omega)) (by decide) (show sT (wN (sh4 σ a n (nI (of / 10)) (nI (of % 10)) b (nI (as / 100))) 9) (sN σ + 4) = 9 from if_pos rfl) ?_
  refine V.sts (σ' := sh5 σ a n (nI (of / 10)) (nI (of % 10)) b (nI (as / 100)) (nI (as / 10 % 10))) rfl ?_
  refine V.aload_n (i := 0) dX5_init_101 rfl rfl ?_
  refine V.getS dX5_init_102 fl_X5_11 rfl (ta5 _ _ _ _) (r45 _ _ _ _) ?_
  refine V.iconst dX5_init_105 ic_1 ?_
  refine V.new (ci := 8) dX5_init_106 (by decide) wk_X5_9 wx_X8 wn_X8 (by decide) (by decide) ?_
  refine V.dup dX5_init_109 rfl ?_
  refine V.iconst dX5_init_110 ic_0 ?_
  refine V.iload_n (i := 3) dX5_init_111 rfl rfl ?_
  refine V.bipush dX5_init_112 bc_10 ?_
  refine V.irem dX5_init_114 (by decide) ?_
  refine V.as _ (pk_rem (by omega) (by decide) (by decide)) ?_
  refine V.null dX5_init_115 ?_
  refine V.ci3U dX5_init_116 lk_X5_43 (k_traitInitN (σ := wN (sh5 σ a n (nI (of / 10)) (nI (of % 10)) b (nI (as / 100)) (nI (as / 10 % 10))) 9) (a := sN σ + 5) (if_pos rfl) _ _ ⟨rfl, rfl⟩) (by decide) (by decide) (Nat.le_of_ble_eq_true rfl) (Nat.le_of_ble_eq_true rfl) (Nat.le_of_ble_eq_true rfl) ?_
  refine V.aast (t := 36) dX5_init_119 (show (if sN σ = sN σ + 5 then 9 else sT (sh5 σ a n (nI (of / 10)) (nI (of % 10)) b (nI (as / 100)) (nI (as / 10 % 10))) (sN σ)) = 36 by rw [if_neg (by omega)]; exact tN5 _ _ _ _) (by decide) (by decide) rfl (show _ < 3 from (by omega)) (by decide) (show sT (wN (sh5 σ a n (nI (of / 10)) (nI (of % 10)) b (nI (as / 100)) (nI (as / 10 % 10))) 9) (sN σ + 5) = 9 from if_pos rfl) ?_
  refine V.vret dX5_init_120 (Nat.le_of_ble_eq_true rfl) (Nat.le_of_ble_eq_true rfl) ?_
  exact hp
end SHIP

