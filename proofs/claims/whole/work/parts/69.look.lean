/-! ===== the class: looks, bans ===== -/
section LOOK
variable {E : VE} {σ : Sg} {G : GS} {x : Nat} {P : PT} {post : Option Value → Sg → Prop}
set_option maxRecDepth 100000 in
theorem k_holdsFor (hR : Rp σ x P G) (t kd : Nat) (f : Int32) (ht : t < nTr G) (hk : kd < 4) (hp : post (some (.int (b2 (¬ (G 25 (4 * t + kd) &&& f) = 0 ∨ G 23 t ≤ sumW G t f 10)))) σ) : MX9_holdsFor E 1 0 0 [.ref (P 7 t), .int (nI kd), .int f] σ post := by
  refine MA.of RX9 "holdsFor" [some (.ref (P 7 t)), some (.int (nI kd)), some (.int f), none, none] rfl rfl rfl (catAll rfl) (Nat.le_of_ble_eq_true rfl) rfl (fun X => ?_)
  have loop : ∀ m k, m + k = 10 → V E X RX9 "holdsFor" cX9_holdsFor 5 (some .boolean) 1 0 0 (QM E X post 0 0) σ 0 0 5 [some (.ref (P 7 t)), some (.int (nI kd)), some (.int f), some (.int (sumW G t f k)), some (.int (nI k))] [] := by
    intro m
    induction m with
    | zero =>
      intro k hk2
      rw [show k = 10 by omega]
      refine V.iload (i := 4) dX9_holdsFor_5 rfl ?_
      refine V.bipush dX9_holdsFor_7 bc_10 ?_
      refine V.icmp_geT (tgt := 35) dX9_holdsFor_9 rfl (by decide) ?_
      refine V.aload_n (i := 0) dX9_holdsFor_35 rfl rfl ?_
      refine V.getS dX9_holdsFor_36 fl_X9_15 rfl (hR.T.at t ht).2 (hR.T.grv t ht).1 ?_
      refine V.iload_n (i := 1) dX9_holdsFor_39 rfl rfl ?_
      refine V.iald (t := 24) dX9_holdsFor_40 (hR.T.grv t ht).2 (by decide) rfl rfl (show _ < 4 from hk) (by decide) ?_
      refine V.as _ (hR.T.gr t ht kd hk) ?_
      refine V.iload_n (i := 2) dX9_holdsFor_41 rfl rfl ?_
      refine V.iand dX9_holdsFor_42 ?_
      refine V.if_ne (tgt := 54) dX9_holdsFor_43 rfl (fun c43 => ?_) (fun c43 => ?_)
      · refine V.iconst dX9_holdsFor_54 ic_1 ?_
        refine V.goto (tgt := 59) dX9_holdsFor_55 rfl ?_
        refine V.zret dX9_holdsFor_59 (by decide) (Nat.le_of_ble_eq_true rfl) (Nat.le_of_ble_eq_true rfl) ?_
        first | exact b2_ret1 (Or.inl c43) hp | exact b2_ret1 (Or.inr (Int32.not_lt.mp c51)) hp | exact b2_ret0 (by rintro (z | z); exact z c43; exact absurd z (Int32.not_le.mpr c51)) hp
      · refine V.iload_n (i := 3) dX9_holdsFor_46 rfl rfl ?_
        refine V.aload_n (i := 0) dX9_holdsFor_47 rfl rfl ?_
        refine V.geti dX9_holdsFor_48 fl_X9_18 rfl (hR.T.at t ht).2 ?_
        refine V.as _ (hR.T.lim t ht) ?_
        refine V.icmp_lt (tgt := 58) dX9_holdsFor_51 rfl (fun c51 => ?_) (fun c51 => ?_)
        · refine V.iconst dX9_holdsFor_58 ic_0 ?_
          refine V.zret dX9_holdsFor_59 (by decide) (Nat.le_of_ble_eq_true rfl) (Nat.le_of_ble_eq_true rfl) ?_
          first | exact b2_ret1 (Or.inl c43) hp | exact b2_ret1 (Or.inr (Int32.not_lt.mp c51)) hp | exact b2_ret0 (by rintro (z | z); exact z c43; exact absurd z (Int32.not_le.mpr c51)) hp
        · refine V.iconst dX9_holdsFor_54 ic_1 ?_
          refine V.goto (tgt := 59) dX9_holdsFor_55 rfl ?_
          refine V.zret dX9_holdsFor_59 (by decide) (Nat.le_of_ble_eq_true rfl) (Nat.le_of_ble_eq_true rfl) ?_
          first | exact b2_ret1 (Or.inl c43) hp | exact b2_ret1 (Or.inr (Int32.not_lt.mp c51)) hp | exact b2_ret0 (by rintro (z | z); exact z c43; exact absurd z (Int32.not_le.mpr c51)) hp
    | succ m ih =>
      intro k hk2
      refine V.iload (i := 4) dX9_holdsFor_5 rfl ?_
      refine V.bipush dX9_holdsFor_7 bc_10 ?_
      refine V.icmp_geF (tgt := 35) dX9_holdsFor_9 rfl (nI_ge (by omega) (by decide)) ?_
      refine V.iload_n (i := 3) dX9_holdsFor_12 rfl rfl ?_
      refine V.iload_n (i := 2) dX9_holdsFor_13 rfl rfl ?_
      refine V.iload (i := 4) dX9_holdsFor_14 rfl ?_
      refine V.ishr dX9_holdsFor_16 ?_
      refine V.iconst dX9_holdsFor_17 ic_1 ?_
      refine V.iand dX9_holdsFor_18 ?_
      refine V.aload_n (i := 0) dX9_holdsFor_19 rfl rfl ?_
      refine V.getS dX9_holdsFor_20 fl_X9_9 rfl (hR.T.at t ht).2 (hR.T.wts t ht).1 ?_
      refine V.iload (i := 4) dX9_holdsFor_23 rfl ?_
      refine V.iald (t := 23) dX9_holdsFor_25 (hR.T.wts t ht).2 (by decide) rfl rfl (show _ < 10 from (by omega)) (by decide) ?_
      refine V.as _ (hR.T.wt t ht k (by omega)) ?_
      refine V.imul dX9_holdsFor_26 ?_
      refine V.iadd dX9_holdsFor_27 ?_
      refine V.istore_n3 (by decide) dX9_holdsFor_28 ?_
      refine V.iinc4 (by decide) dX9_holdsFor_29 (inc1 _) ?_
      refine V.goto (tgt := 5) dX9_holdsFor_32 rfl ?_
      exact ih (k + 1) (by omega)
  refine V.iconst dX9_holdsFor_0 ic_0 ?_
  refine V.istore_n3 (by decide) dX9_holdsFor_1 ?_
  refine V.iconst dX9_holdsFor_2 ic_0 ?_
  refine V.istore4 (by decide) dX9_holdsFor_3 ?_
  exact loop 10 0 rfl
theorem ban_rp {i : Nat} (hR : Rp σ x P G) (hI : Inv G) (hi : i < nSh G) : Rp (wI (wI σ 6 (P 1 i) 8 (G 0 0)) 6 (P 1 i) 9 (G 37 i + nI 1)) x P (u2 (u2 (u2 G 36 i (nI 1)) 38 i (G 0 0)) 37 i (G 37 i + nI 1)) := by
  have f : frk (fun t k => !(decide (t = 6) && (decide (k = 8) || decide (k = 9)))) (fun _ _ => true) σ (wI (wI σ 6 (P 1 i) 8 (G 0 0)) 6 (P 1 i) 9 (G 37 i + nI 1)) := (frk.wI rfl).trans (frk.wI rfl)
  have hsn : SH_since (wI (wI σ 6 (P 1 i) 8 (G 0 0)) 6 (P 1 i) 9 (G 37 i + nI 1)) P (u2 (u2 (u2 G 36 i (nI 1)) 38 i (G 0 0)) 37 i (G 37 i + nI 1)) := by
    intro j hj
    replace hj : j < nSh G := hj
    show _ = if u2 G 36 i (nI 1) 36 j = 0 then -1 else u2 (u2 G 36 i (nI 1)) 38 i (G 0 0) 38 j
    rw [sI_wI, if_neg (by simp), sI_wI, u2_at, u2_at]
    by_cases q : j = i
    · rw [if_pos ⟨rfl, by rw [q], rfl⟩, if_pos q, if_neg (show ¬ nI 1 = 0 by decide), if_pos q]
    · rw [if_neg (fun z => q (P1_inj hR hI hj hi z.2.1)), if_neg q, if_neg q]
      exact hR.H.since j hj
  have hbn : SH_bans (wI (wI σ 6 (P 1 i) 8 (G 0 0)) 6 (P 1 i) 9 (G 37 i + nI 1)) P (u2 (u2 (u2 G 36 i (nI 1)) 38 i (G 0 0)) 37 i (G 37 i + nI 1)) := by
    intro j hj
    replace hj : j < nSh G := hj
    rw [sI_wI, sI_wI, u2_at]
    by_cases q : j = i
    · rw [if_pos ⟨rfl, by rw [q], rfl⟩, if_pos q]
    · rw [if_neg (fun z => q (P1_inj hR hI hj hi z.2.1)), if_neg (by simp), if_neg q]
      exact hR.H.bans j hj
  have hH : SH (wI (wI σ 6 (P 1 i) 8 (G 0 0)) 6 (P 1 i) 9 (G 37 i + nI 1)) P (u2 (u2 (u2 G 36 i (nI 1)) 38 i (G 0 0)) 37 i (G 37 i + nI 1)) := ⟨(SH_at.k (P := P) (G := G) hR.H hR.F f (fun _ => rfl) rfl), (SH_no.k (P := P) (G := G) hR.H hR.F f rfl rfl), (SH_kind.k (P := P) (G := G) hR.H hR.F f rfl rfl rfl), (SH_soc.k (P := P) (G := G) hR.H hR.F f rfl rfl rfl), (SH_built.k (P := P) (G := G) hR.H hR.F f rfl rfl rfl), (SH_lat.k (P := P) (G := G) hR.H hR.F f rfl rfl), (SH_week.k (P := P) (G := G) hR.H hR.F f rfl rfl), (SH_days.k (P := P) (G := G) hR.H hR.F f rfl rfl), (SH_rest.k (P := P) (G := G) hR.H hR.F f (fun _ => rfl) rfl rfl), (SH_berth.k (P := P) (G := G) hR.H hR.F f rfl rfl rfl rfl rfl), (SH_last.k (P := P) (G := G) hR.H hR.F f rfl rfl rfl rfl rfl rfl), hsn, hbn, (SH_chain.k (P := P) (G := G) hR.H hR.F f (fun _ => rfl) rfl rfl rfl rfl rfl rfl rfl rfl rfl)⟩
  exact ⟨(hR.F.k f (fun _ => rfl) rfl rfl (fun _ => rfl)), ⟨((f.num 1 hR.F.x (by decide) rfl).trans hR.S.shipN), ((f.num 2 hR.F.x (by decide) rfl).trans hR.S.chN), ((f.num 5 hR.F.x (by decide) rfl).trans hR.S.caN), ((f.num 7 hR.F.x (by decide) rfl).trans hR.S.lkN), ((f.num 9 hR.F.x (by decide) rfl).trans hR.S.trN), ((f.num 11 hR.F.x (by decide) rfl).trans hR.S.day), ((f.num 12 hR.F.x (by decide) rfl).trans hR.S.mon), ((f.num 13 hR.F.x (by decide) rfl).trans hR.S.drN), ((f.num 15 hR.F.x (by decide) rfl).trans hR.S.wtN), ((f.num 1 hR.F.owners.2 (by decide) rfl).trans hR.S.wdN), ((f.num 1 hR.F.tape.2 (by decide) rfl).trans hR.S.tpN), (fun j hj => (f.num j hR.F.bytes.2 (by decide) rfl).trans (hR.S.tp j hj)), (fun j hj => (f.num j hR.F.wait.2 (by decide) rfl).trans (hR.S.wt j hj)), (fun j hj => (f.num j hR.F.fnds.2 (by decide) rfl).trans (hR.S.fd j hj))⟩, (hR.O.k hR.F f (fun _ => rfl) rfl rfl rfl), hH, ⟨(CA_at.k (P := P) (G := G) hR.C hR.F f (fun _ => rfl) rfl), (CA_no.k (P := P) (G := G) hR.C hR.F f rfl rfl), (CA_ship.k (P := P) (G := G) hR.C hR.F f rfl rfl rfl), (CA_port.k (P := P) (G := G) hR.C hR.F f rfl rfl rfl), (CA_from_.k (P := P) (G := G) hR.C hR.F f rfl rfl rfl), (CA_over.k (P := P) (G := G) hR.C hR.F f rfl rfl rfl), (CA_held.k (P := P) (G := G) hR.C hR.F f rfl rfl rfl), (CA_lks.k (P := P) (G := G) hR.C hR.F f rfl rfl rfl rfl)⟩, ⟨(LO_at.k (P := P) (G := G) hR.L hR.F f (fun _ => rfl) rfl), (LO_call.k (P := P) (G := G) hR.L hR.F f rfl rfl rfl), (LO_by_.k (P := P) (G := G) hR.L hR.F f rfl rfl rfl), (LO_on_.k (P := P) (G := G) hR.L hR.F f rfl rfl rfl), (LO_flt.k (P := P) (G := G) hR.L hR.F f rfl rfl rfl), (LO_hold.k (P := P) (G := G) hR.L hR.F f rfl rfl rfl), (LO_chance.k (P := P) (G := G) hR.L hR.F f rfl rfl rfl)⟩, ⟨(TR_at.k (P := P) (G := G) hR.T hR.F f (fun _ => rfl) rfl), (TR_from_.k (P := P) (G := G) hR.T hR.F f rfl rfl rfl), (TR_wts.k (P := P) (G := G) hR.T hR.F f rfl rfl), (TR_grv.k (P := P) (G := G) hR.T hR.F f rfl rfl), (TR_lim.k (P := P) (G := G) hR.T hR.F f rfl rfl rfl), (TR_wt.k (P := P) (G := G) hR.T hR.F f (fun _ => rfl) rfl rfl), (TR_gr.k (P := P) (G := G) hR.T hR.F f (fun _ => rfl) rfl rfl)⟩, (hR.J.e rfl rfl)⟩
set_option maxRecDepth 100000 in
theorem k_banIfDue (hR : Rp σ x P G) (hI : Inv G) (i : Nat) (hi : i < nSh G) (hp : ∀ s, Rp s x P (banG G i) ∧ sG s = sG σ → post none s) : MX10_banIfDue E 5 0 0 [.ref x, .ref (P 1 i)] σ post := by
  refine MA.of RX10 "banIfDue" [some (.ref x), some (.ref (P 1 i)), none, none, none, none, none] rfl rfl rfl (catAll rfl) (Nat.le_of_ble_eq_true rfl) rfl (fun X => ?_)
  have hn := hI.lkN
  have h16 := hI.shN.2
  have hmo := hI.mon
  obtain ⟨mN, hm1, hm2, hme⟩ := tiN (x := G 35 0) (a := 1) (b := 99) hmo.1 hmo.2
  have loop : ∀ s (sp : Nat), scr σ s → sp ≤ 99 → banSpan G i = (sp : Int) → G 36 i = 0 → ∀ m l, m + l = nLk G → ∀ v, v = nI (fb_ct (fun l => decide (¬ G 31 l = 0 ∧ shipOf G l = i) && inLast G (30 * banSpan G i) l) l) → ∀ l2 l5, V E X RX10 "banIfDue" cX10_banIfDue 7 none 5 0 0 (QM E X post 0 0) s 0 0 49 [some (.ref x), some (.ref (P 1 i)), l2, some (.int (nI sp)), some (.int v), some (.int (nI l)), l5] [] := by
    intro s sp hs hsp hbs hb0 m
    have hR2 := hR.scr hs
    induction m with
    | zero =>
      intro l hl v hv l2 l5
      have hc : banCnt G i ≤ 60 := Nat.le_trans (fb_ct_le _ _) hn.2
      have hv2 : v = nI (banCnt G i) := by rw [hv, banCnt, show l = nLk G by omega]
      refine V.iload (i := 5) dX10_banIfDue_49 rfl ?_
      refine V.aload_n (i := 0) dX10_banIfDue_51 rfl rfl ?_
      refine V.geti dX10_banIfDue_52 fl_X10_210 rfl hR2.F.x ?_
      refine V.icmp_geT (tgt := 112) dX10_banIfDue_55 rfl (lpT (hR2.S.lkN.trans hn.1) (by omega) (by omega)) ?_
      refine V.iload (i := 4) dX10_banIfDue_112 rfl ?_
      refine V.iconst dX10_banIfDue_114 ic_3 ?_
      refine V.icmp_lt (tgt := 136) dX10_banIfDue_115 rfl (fun c115 => ?_) (fun c115 => ?_)
      · rw [hv2, nI_ltI (by omega) (by decide)] at c115
        refine V.vret dX10_banIfDue_136 (Nat.le_of_ble_eq_true rfl) (Nat.le_of_ble_eq_true rfl) ?_
        first | exact hp _ ⟨by unfold banG; rw [if_neg (by omega)]; exact hR2, hs.2⟩ | exact hp _ ⟨by unfold banG; rw [if_pos ⟨by omega, hb0⟩]; exact ban_rp hR2 hI hi, hs.2⟩
      · rw [hv2, nI_ltI (by omega) (by decide)] at c115
        refine V.aload_n (i := 1) dX10_banIfDue_118 rfl rfl ?_
        refine V.aload_n (i := 0) dX10_banIfDue_119 rfl rfl ?_
        refine V.geti dX10_banIfDue_120 fl_X10_79 rfl hR2.F.x ?_
        refine V.as _ hR2.S.day ?_
        refine V.puti dX10_banIfDue_123 fl_X10_300 rfl rfl (hR2.H.at i hi).2 ?_
        refine V.aload_n (i := 1) dX10_banIfDue_126 rfl rfl ?_
        refine V.dup dX10_banIfDue_127 rfl ?_
        refine V.geti dX10_banIfDue_128 fl_X10_297 rfl (hR2.H.at i hi).2 ?_
        refine V.as (G 37 i) (by rw [sI_wI, if_neg (by simp)]; exact hR2.H.bans i hi) ?_
        refine V.iconst dX10_banIfDue_131 ic_1 ?_
        refine V.iadd dX10_banIfDue_132 ?_
        refine V.puti dX10_banIfDue_133 fl_X10_297 rfl rfl (hR2.H.at i hi).2 ?_
        refine V.vret dX10_banIfDue_136 (Nat.le_of_ble_eq_true rfl) (Nat.le_of_ble_eq_true rfl) ?_
        first | exact hp _ ⟨by unfold banG; rw [if_neg (by omega)]; exact hR2, hs.2⟩ | exact hp _ ⟨by unfold banG; rw [if_pos ⟨by omega, hb0⟩]; exact ban_rp hR2 hI hi, hs.2⟩
    | succ m ih =>
      intro l hl v hv l2 l5
      have hl2 : l < nLk G := by omega
      have hlk := hI.lk l hl2
      have hca := hI.ca _ hlk.2
      have hsp30 : inLast G (30 * banSpan G i) l = inLast G ((sp * 30 : Nat) : Int) l := by rw [hbs]; congr 1; omega
      have eF : ¬ (decide (¬ G 31 l = 0 ∧ shipOf G l = i) && inLast G (30 * banSpan G i) l) = true → v = nI (fb_ct (fun l => decide (¬ G 31 l = 0 ∧ shipOf G l = i) && inLast G (30 * banSpan G i) l) (l + 1)) := fun h => hv.trans (congrArg nI (fb_ctF1 h))
      have eT : (decide (¬ G 31 l = 0 ∧ shipOf G l = i) && inLast G (30 * banSpan G i) l) = true → v + Int32.ofInt 1 = nI (fb_ct (fun l => decide (¬ G 31 l = 0 ∧ shipOf G l = i) && inLast G (30 * banSpan G i) l) (l + 1)) := fun h => by rw [hv, inc1, fb_ctT1 (p := fun l => decide (¬ G 31 l = 0 ∧ shipOf G l = i) && inLast G (30 * banSpan G i) l) h]
      refine V.iload (i := 5) dX10_banIfDue_49 rfl ?_
      refine V.aload_n (i := 0) dX10_banIfDue_51 rfl rfl ?_
      refine V.geti dX10_banIfDue_52 fl_X10_210 rfl hR2.F.x ?_
      refine V.icmp_geF (tgt := 112) dX10_banIfDue_55 rfl (lpF (hR2.S.lkN.trans hn.1) (by omega) (by omega)) ?_
      refine V.aload_n (i := 0) dX10_banIfDue_58 rfl rfl ?_
      refine V.getS dX10_banIfDue_59 fl_X10_30 rfl hR2.F.x hR2.F.looks.1 ?_
      refine V.iload (i := 5) dX10_banIfDue_62 rfl ?_
      refine V.aaldS (t := 34) dX10_banIfDue_64 hR2.F.looks.2 (by decide) (by decide) rfl (show _ < 60 from (by omega)) (by decide) (hR2.L.at l hl2).1 ?_
      refine V.astore6 (by decide) dX10_banIfDue_65 ?_
      refine V.aload (i := 6) dX10_banIfDue_67 rfl ?_
      refine V.geti dX10_banIfDue_69 fl_X10_242 rfl (hR2.L.at l hl2).2 ?_
      refine V.as _ (hR2.L.hold l hl2) ?_
      refine V.if_eq (tgt := 106) dX10_banIfDue_72 rfl (fun c72 => ?_) (fun c72 => ?_)
      · have hf : ¬ (decide (¬ G 31 l = 0 ∧ shipOf G l = i) && inLast G (30 * banSpan G i) l) = true := by rw [decide_eq_false (fun z => z.1 c72)]; simp
        refine V.iinc5 (by decide) dX10_banIfDue_106 (inc1 _) ?_
        refine V.goto (tgt := 49) dX10_banIfDue_109 rfl ?_
        first | exact ih (l + 1) (by omega) _ rfl _ _ | exact ih (l + 1) (by omega) _ (eF hf) _ _
      · refine V.aload (i := 6) dX10_banIfDue_75 rfl ?_
        refine V.getS dX10_banIfDue_77 fl_X10_230 rfl (hR2.L.at l hl2).2 (hR2.L.call l hl2) ?_
        refine V.getS dX10_banIfDue_80 fl_X10_164 rfl (hR2.C.at _ hlk.2).2 (hR2.C.ship _ hlk.2) ?_
        refine V.aload_n (i := 1) dX10_banIfDue_83 rfl rfl ?_
        refine V.acmp_ne (tgt := 106) dX10_banIfDue_84 rfl (fun c84 => ?_) (fun c84 => ?_)
        · have hf : ¬ (decide (¬ G 31 l = 0 ∧ shipOf G l = i) && inLast G (30 * banSpan G i) l) = true := by rw [decide_eq_false (fun z => c84 (by rw [show gN G 14 (gN G 27 l) = i from z.2]))]; simp
          refine V.iinc5 (by decide) dX10_banIfDue_106 (inc1 _) ?_
          refine V.goto (tgt := 49) dX10_banIfDue_109 rfl ?_
          first | exact ih (l + 1) (by omega) _ rfl _ _ | exact ih (l + 1) (by omega) _ (eF hf) _ _
        · refine V.aload_n (i := 0) dX10_banIfDue_87 rfl rfl ?_
          refine V.iload_n (i := 3) dX10_banIfDue_88 rfl rfl ?_
          refine V.bipush dX10_banIfDue_89 bc_30 ?_
          refine V.imul dX10_banIfDue_91 ?_
          refine V.as _ (pk_mul _ _) ?_
          refine V.aload (i := 6) dX10_banIfDue_92 rfl ?_
          refine V.geti dX10_banIfDue_94 fl_X10_236 rfl (hR2.L.at l hl2).2 ?_
          refine V.as _ (hR2.L.on_ l hl2) ?_
          refine V.cv2D (ci := 10) dX10_banIfDue_97 lk_X10_344 (by decide) rfl hR2.F.x (k_isInLast hR2 hI (sp * 30) l hl2 (by omega) ⟨rfl, rfl⟩) (by decide) (by decide) (Nat.le_of_ble_eq_true rfl) (Nat.le_of_ble_eq_true rfl) (Nat.le_of_ble_eq_true rfl) ?_
          refine V.ifb_eq (tgt := 106) dX10_banIfDue_100 rfl (fun c100 => ?_) (fun c100 => ?_)
          · have hf : ¬ (decide (¬ G 31 l = 0 ∧ shipOf G l = i) && inLast G (30 * banSpan G i) l) = true := by rw [hsp30, show inLast G ((sp * 30 : Nat) : Int) l = false by simpa using c100]; simp
            refine V.iinc5 (by decide) dX10_banIfDue_106 (inc1 _) ?_
            refine V.goto (tgt := 49) dX10_banIfDue_109 rfl ?_
            first | exact ih (l + 1) (by omega) _ rfl _ _ | exact ih (l + 1) (by omega) _ (eF hf) _ _
          · refine V.iinc4 (by decide) dX10_banIfDue_103 (eT (by rw [hsp30, show inLast G ((sp * 30 : Nat) : Int) l = true from c100, decide_eq_true ⟨c72, P1_inj hR2 hI hca.2 hi c84⟩]; rfl)) ?_
            refine V.iinc5 (by decide) dX10_banIfDue_106 (inc1 _) ?_
            refine V.goto (tgt := 49) dX10_banIfDue_109 rfl ?_
            first | exact ih (l + 1) (by omega) _ rfl _ _ | exact ih (l + 1) (by omega) _ (eF hf) _ _
  refine V.aload_n (i := 1) dX10_banIfDue_0 rfl rfl ?_
  refine V.cv0D (ci := 5) dX10_banIfDue_1 lk_X10_137 (by decide) rfl (hR.H.at i hi).2 (k_isBanned hR hI i hi ⟨rfl, rfl⟩) (by decide) (by decide) (Nat.le_of_ble_eq_true rfl) (Nat.le_of_ble_eq_true rfl) (Nat.le_of_ble_eq_true rfl) ?_
  refine V.ifb_eq (tgt := 8) dX10_banIfDue_4 rfl (fun c4 => ?_) (fun c4 => ?_)
  · refine V.aload_n (i := 0) dX10_banIfDue_8 rfl rfl ?_
    refine V.iconst dX10_banIfDue_9 ic_0 ?_
    refine V.aload_n (i := 1) dX10_banIfDue_10 rfl rfl ?_
    refine V.iconst dX10_banIfDue_11 ic_1 ?_
    refine V.aload_n (i := 0) dX10_banIfDue_12 rfl rfl ?_
    refine V.geti dX10_banIfDue_13 fl_X10_79 rfl hR.F.x ?_
    refine V.as _ hR.S.day ?_
    refine V.cv2D (ci := 5) dX10_banIfDue_16 lk_X10_115 (by decide) rfl (hR.H.at i hi).2 (k_traitOn hR i 1 _ hi (by decide) ⟨rfl, rfl⟩) (by decide) (by decide) (Nat.le_of_ble_eq_true rfl) (Nat.le_of_ble_eq_true rfl) (Nat.le_of_ble_eq_true rfl) ?_
    refine V.cv2s (ci := 10) dX10_banIfDue_19 lk_X10_361 (by decide) rfl hR.F.x (k_isDarkGroup hR hI 0 _ (by decide) (fun s h => ⟨rfl, h⟩)) (by decide) (by decide) (Nat.le_of_ble_eq_true rfl) (Nat.le_of_ble_eq_true rfl) (Nat.le_of_ble_eq_true rfl) (fun s19 h19 => ?_)
    have hR2 := hR.scr h19
    refine V.istore_n2 (by decide) dX10_banIfDue_22 ?_
    refine V.iload_n (i := 2) dX10_banIfDue_23 rfl rfl ?_
    refine V.ifb_eq (tgt := 38) dX10_banIfDue_24 rfl (fun c24 => ?_) (fun c24 => ?_)
    · refine V.aload_n (i := 0) dX10_banIfDue_38 rfl rfl ?_
      refine V.geti dX10_banIfDue_39 fl_X10_47 rfl hR2.F.x ?_
      refine V.as _ (hR2.S.mon.trans hme) ?_
      refine V.istore_n3 (by decide) dX10_banIfDue_42 ?_
      refine V.iconst dX10_banIfDue_43 ic_0 ?_
      refine V.istore4 (by decide) dX10_banIfDue_44 ?_
      refine V.iconst dX10_banIfDue_46 ic_0 ?_
      refine V.istore5 (by decide) dX10_banIfDue_47 ?_
      first
      | exact loop s19 (mN * 2 / 3) h19 (by omega) (by unfold banSpan; rw [if_pos c24, hme, toI _ (by omega)]; omega) (Classical.not_not.mp c4) (nLk G) 0 (by omega) _ rfl _ _
      | exact loop s19 mN h19 (by omega) (by unfold banSpan; rw [if_neg c24, hme, toI _ (by omega)]) (Classical.not_not.mp c4) (nLk G) 0 (by omega) _ rfl _ _
    · refine V.aload_n (i := 0) dX10_banIfDue_27 rfl rfl ?_
      refine V.geti dX10_banIfDue_28 fl_X10_47 rfl hR2.F.x ?_
      refine V.as _ (hR2.S.mon.trans hme) ?_
      refine V.iconst dX10_banIfDue_31 ic_2 ?_
      refine V.imul dX10_banIfDue_32 ?_
      refine V.as _ (pk_mul _ _) ?_
      refine V.iconst dX10_banIfDue_33 ic_3 ?_
      refine V.idiv dX10_banIfDue_34 (by decide) ?_
      refine V.as _ (pk_div (by omega) (by decide) (by decide)) ?_
      refine V.goto (tgt := 42) dX10_banIfDue_35 rfl ?_
      refine V.istore_n3 (by decide) dX10_banIfDue_42 ?_
      refine V.iconst dX10_banIfDue_43 ic_0 ?_
      refine V.istore4 (by decide) dX10_banIfDue_44 ?_
      refine V.iconst dX10_banIfDue_46 ic_0 ?_
      refine V.istore5 (by decide) dX10_banIfDue_47 ?_
      first
      | exact loop s19 (mN * 2 / 3) h19 (by omega) (by unfold banSpan; rw [if_pos c24, hme, toI _ (by omega)]; omega) (Classical.not_not.mp c4) (nLk G) 0 (by omega) _ rfl _ _
      | exact loop s19 mN h19 (by omega) (by unfold banSpan; rw [if_neg c24, hme, toI _ (by omega)]) (Classical.not_not.mp c4) (nLk G) 0 (by omega) _ rfl _ _
  · refine V.vret dX10_banIfDue_7 (Nat.le_of_ble_eq_true rfl) (Nat.le_of_ble_eq_true rfl) ?_
    exact hp _ ⟨by unfold banG; rw [if_neg (fun z => c4 z.2)]; exact hR, rfl⟩
theorem ban_nLk (G : GS) (i : Nat) : nLk (banG G i) = nLk G := by
  unfold banG
  split <;> rfl
def loS (τ : Sg) (a p : Nat) (by_ on f h : Int32) : Sg := wI (wI (wI (wI (wR τ 3 a 0 (some p)) 3 a 1 by_) 3 a 2 on) 3 a 3 f) 3 a 4 h
set_option maxRecDepth 100000 in
theorem k_lookInit {a p : Nat} (ht : sT σ a = 3) (by_ on f h : Int32) (h01 : h = 0 ∨ h = 1) (hp : post none (loS σ a p by_ on f h)) : MX2_init E 1 0 0 [.ref a, .ref p, .int by_, .int on, .int f, .int h] σ post := by
  refine MA.of RX2 "<init>" [some (.ref a), some (.ref p), some (.int by_), some (.int on), some (.int f), some (.int h)] rfl rfl rfl (catAll rfl) (Nat.le_of_ble_eq_true rfl) rfl (fun X => ?_)
  refine V.aload_n (i := 0) dX2_init_0 rfl rfl ?_
  refine V.objInit dX2_init_1 wm_X2_1 wi_objectInit wc_objectInit (Nat.le_of_ble_eq_true rfl) (by decide) ?_
  refine V.aload_n (i := 0) dX2_init_4 rfl rfl ?_
  refine V.aload_n (i := 1) dX2_init_5 rfl rfl ?_
  refine V.putFr dX2_init_6 fl_X2_7 rfl rfl rfl rfl ht ?_
  refine V.aload_n (i := 0) dX2_init_9 rfl rfl ?_
  refine V.iload_n (i := 2) dX2_init_10 rfl rfl ?_
  refine V.putFi dX2_init_11 fl_X2_13 rfl rfl rfl rfl ht ?_
  refine V.aload_n (i := 0) dX2_init_14 rfl rfl ?_
  refine V.iload_n (i := 3) dX2_init_15 rfl rfl ?_
  refine V.putFi dX2_init_16 fl_X2_17 rfl rfl rfl rfl ht ?_
  refine V.aload_n (i := 0) dX2_init_19 rfl rfl ?_
  refine V.iload (i := 4) dX2_init_20 rfl ?_
  refine V.putFi dX2_init_22 fl_X2_20 rfl rfl rfl rfl ht ?_
  refine V.aload_n (i := 0) dX2_init_25 rfl rfl ?_
  refine V.iload (i := 5) dX2_init_26 rfl ?_
  refine V.putFz dX2_init_28 fl_X2_23 rfl rfl rfl rfl h01 ht ?_
  refine V.vret dX2_init_31 (Nat.le_of_ble_eq_true rfl) (Nat.le_of_ble_eq_true rfl) ?_
  exact hp
/-- the cells behind a look -/
def lkS (σ : Sg) (x : Nat) (P : PT) (G : GS) (c : Nat) (b f h : Int32) : Sg := wI (wI (wI (wI (wR (loS (wN σ 3) (sN σ) (P 5 c) b (G 0 0) f h) 34 (P 0 4) (nLk G) (some (sN σ))) 11 x 7 (nI (nLk G + 1))) 2 (P 5 c) 6 (nI (looksAt G c + 1))) 2 (P 5 c) 5 h) 6 (P 1 (gN G 14 c)) 7 (G 0 0)
/-- the rows behind a look; h: does it hold -/
def lkG (G : GS) (c : Nat) (b f h : Int32) : GS := u2 (u2 (u2 (u2 (u2 (u2 (u2 (u2 G 27 (nLk G) (nI c)) 28 (nLk G) b) 29 (nLk G) (G 0 0)) 30 (nLk G) f) 31 (nLk G) h) 32 (nLk G) (nI 0)) 26 0 (nI (nLk G + 1))) 18 c h
theorem lkG_18 (G : GS) (c : Nat) (b f h : Int32) (j : Nat) : lkG G c b f h 18 j = if j = c then h else G 18 j := u2_at (G := G) (k := 18)
theorem lkG_27 (G : GS) (c : Nat) (b f h : Int32) (j : Nat) : lkG G c b f h 27 j = if j = nLk G then nI c else G 27 j := u2_at (G := G) (k := 27)
theorem lkG_28 (G : GS) (c : Nat) (b f h : Int32) (j : Nat) : lkG G c b f h 28 j = if j = nLk G then b else G 28 j := u2_at (G := G) (k := 28)
theorem lkG_29 (G : GS) (c : Nat) (b f h : Int32) (j : Nat) : lkG G c b f h 29 j = if j = nLk G then G 0 0 else G 29 j := u2_at (G := G) (k := 29)
theorem lkG_30 (G : GS) (c : Nat) (b f h : Int32) (j : Nat) : lkG G c b f h 30 j = if j = nLk G then f else G 30 j := u2_at (G := G) (k := 30)
theorem lkG_31 (G : GS) (c : Nat) (b f h : Int32) (j : Nat) : lkG G c b f h 31 j = if j = nLk G then h else G 31 j := u2_at (G := G) (k := 31)
theorem lkG_32 (G : GS) (c : Nat) (b f h : Int32) (j : Nat) : lkG G c b f h 32 j = if j = nLk G then nI 0 else G 32 j := u2_at (G := G) (k := 32)
theorem look_rp {c : Nat} {b f h : Int32} (hR : Rp σ x P G) (hI : Inv G) (hlt : ∀ a, sT σ a ≠ 0 → a < sN σ) (hc : c < nCa G) (hn : nLk G < 60) : Rp (lkS σ x P G c b f h) x (u2 P 6 (nLk G) (sN σ)) (lkG G c b f h) := by
  have h50 := hI.caN.2
  have h16 := hI.shN.2
  have hca := hI.ca c hc
  have eN : nLk (lkG G c b f h) = nLk G + 1 := tn_nI (by omega)
  have nN : nw σ (loS (wN σ 3) (sN σ) (P 5 c) b (G 0 0) f h) := (((((nw.rfl'.N 3).R (Nat.le_refl _)).I (Nat.le_refl _)).I (Nat.le_refl _)).I (Nat.le_refl _)).I (Nat.le_refl _)
  have fC : frk (fun _ _ => true) (fun _ _ => true) σ (loS (wN σ 3) (sN σ) (P 5 c) b (G 0 0) f h) := nN.frk hlt
  have fr : frk (fun t k => !(decide (t = 11) && decide (k = 7)) && !(decide (t = 2) && (decide (k = 6) || decide (k = 5))) && !(decide (t = 6) && decide (k = 7))) (fun t _ => decide (t ≠ 34)) σ (lkS σ x P G c b f h) := ((((fC.all.trans (frk.wR rfl)).trans (frk.wI rfl)).trans (frk.wI rfl)).trans (frk.wI rfl)).trans (frk.wI rfl)
  have i3 : ∀ a k, sI (lkS σ x P G c b f h) 3 a k = sI (loS (wN σ 3) (sN σ) (P 5 c) b (G 0 0) f h) 3 a k := fun a k => by
    unfold lkS
    rw [sI_wI, if_neg (by simp), sI_wI, if_neg (by simp), sI_wI, if_neg (by simp), sI_wI, if_neg (by simp), sI_wR]
  have r3 : sR (lkS σ x P G c b f h) 3 (sN σ) 0 = some (P 5 c) := by
    unfold lkS loS
    simp [sR_wI, sR_wR]
  have r34 : ∀ k, sR (lkS σ x P G c b f h) 34 (P 0 4) k = if k = nLk G then some (sN σ) else sR σ 34 (P 0 4) k := fun k => by
    unfold lkS
    rw [sR_wI, sR_wI, sR_wI, sR_wI, sR_wR]
    by_cases q : k = nLk G
    · rw [if_pos ⟨rfl, rfl, q⟩, if_pos q]
    · rw [if_neg (fun z => q z.2.2), if_neg q]; exact fC.ref k hR.F.looks.2 (by decide) rfl
  have i11 : sI (lkS σ x P G c b f h) 11 x 7 = nI (nLk G + 1) := by
    unfold lkS
    rw [sI_wI, if_neg (by simp), sI_wI, if_neg (by simp), sI_wI, if_neg (by simp), sI_wI, if_pos ⟨rfl, rfl, rfl⟩]
  have i25 : ∀ j, j < nCa G → sI (lkS σ x P G c b f h) 2 (P 5 j) 5 = if j = c then h else sI σ 2 (P 5 j) 5 := fun j hj => by
    unfold lkS
    rw [sI_wI, if_neg (by simp), sI_wI]
    by_cases q : j = c
    · rw [if_pos ⟨rfl, by rw [q], rfl⟩, if_pos q]
    · rw [if_neg (fun z => q (P5_inj hR hI hj hc z.2.1)), if_neg q, sI_wI, if_neg (by simp), sI_wI, if_neg (by simp), sI_wR]
      exact fC.num 5 (hR.C.at j hj).2 (by decide) rfl
  have i26 : ∀ j, j < nCa G → sI (lkS σ x P G c b f h) 2 (P 5 j) 6 = if j = c then nI (looksAt G c + 1) else sI σ 2 (P 5 j) 6 := fun j hj => by
    unfold lkS
    rw [sI_wI, if_neg (by simp), sI_wI, if_neg (by simp), sI_wI]
    by_cases q : j = c
    · rw [if_pos ⟨rfl, by rw [q], rfl⟩, if_pos q]
    · rw [if_neg (fun z => q (P5_inj hR hI hj hc z.2.1)), if_neg q, sI_wI, if_neg (by simp), sI_wR]
      exact fC.num 6 (hR.C.at j hj).2 (by decide) rfl
  have i67 : ∀ j, j < nSh G → sI (lkS σ x P G c b f h) 6 (P 1 j) 7 = if j = gN G 14 c then G 0 0 else sI σ 6 (P 1 j) 7 := fun j hj => by
    unfold lkS
    rw [sI_wI]
    by_cases q : j = gN G 14 c
    · rw [if_pos ⟨rfl, by rw [q], rfl⟩, if_pos q]
    · rw [if_neg (fun z => q (P1_inj hR hI hj hca.2 z.2.1)), if_neg q, sI_wI, if_neg (by simp), sI_wI, if_neg (by simp), sI_wI, if_neg (by simp), sI_wR]
      exact fC.num 7 (hR.H.at j hj).2 (by decide) rfl
  have t3 : sT (lkS σ x P G c b f h) (sN σ) = 3 := if_pos rfl
  generalize hσ' : lkS σ x P G c b f h = σ' at fr i3 r3 r34 i11 i25 i26 i67 t3 ⊢
  have split : ∀ {p : Nat → Prop}, (∀ l, l < nLk G → p l) → p (nLk G) → ∀ l, l < nLk (lkG G c b f h) → p l := by
    intro p h1 h2 l hl
    rw [eN] at hl
    by_cases q : l = nLk G
    · rw [q]; exact h2
    · exact h1 l (by omega)
  have q6 : ∀ l, l < nLk G → u2 P 6 (nLk G) (sN σ) 6 l = P 6 l := fun l hl => by unfold u2; rw [if_neg (by omega)]
  have n6 : u2 P 6 (nLk G) (sN σ) 6 (nLk G) = sN σ := by unfold u2; rw [if_pos ⟨rfl, rfl⟩]
  have L := hR.L
  have hL : LO σ' (u2 P 6 (nLk G) (sN σ)) (lkG G c b f h) := by
    refine ⟨split (fun l hl => ?_) ?_, split (fun l hl => ?_) ?_, split (fun l hl => ?_) ?_, split (fun l hl => ?_) ?_, split (fun l hl => ?_) ?_, split (fun l hl => ?_) ?_, split (fun l hl => ?_) ?_⟩
    · rw [q6 l hl]; exact ⟨(r34 l).trans ((if_neg (by omega)).trans (L.at l hl).1), fr.tag (L.at l hl).2 (by decide)⟩
    · rw [n6]; exact ⟨(r34 _).trans (if_pos rfl), t3⟩
    · rw [q6 l hl, show gN (lkG G c b f h) 27 l = gN G 27 l by unfold gN; rw [lkG_27, if_neg (by omega)]]
      exact (fr.ref 0 (L.at l hl).2 (by decide) rfl).trans (L.call l hl)
    · rw [n6, show gN (lkG G c b f h) 27 (nLk G) = c by unfold gN; rw [lkG_27, if_pos rfl]; exact tn_nI (by omega)]
      exact r3
    · rw [q6 l hl, lkG_28, if_neg (by omega)]; exact (fr.num 1 (L.at l hl).2 (by decide) rfl).trans (L.by_ l hl)
    · rw [n6, i3, lkG_28, if_pos rfl]; simp [loS, sI_wI, sI_wR]
    · rw [q6 l hl, lkG_29, if_neg (by omega)]; exact (fr.num 2 (L.at l hl).2 (by decide) rfl).trans (L.on_ l hl)
    · rw [n6, i3, lkG_29, if_pos rfl]; simp [loS, sI_wI, sI_wR]
    · rw [q6 l hl, lkG_30, if_neg (by omega)]; exact (fr.num 3 (L.at l hl).2 (by decide) rfl).trans (L.flt l hl)
    · rw [n6, i3, lkG_30, if_pos rfl]; simp [loS, sI_wI, sI_wR]
    · rw [q6 l hl, lkG_31, if_neg (by omega)]; exact (fr.num 4 (L.at l hl).2 (by decide) rfl).trans (L.hold l hl)
    · rw [n6, i3, lkG_31, if_pos rfl]; simp [loS, sI_wI, sI_wR]
    · rw [q6 l hl, lkG_32, if_neg (by omega)]; exact (fr.num 5 (L.at l hl).2 (by decide) rfl).trans (L.chance l hl)
    · rw [n6, i3, lkG_32, if_pos rfl]; simp [loS, sI_wI, sI_wR, sI_wN]; rfl
  have hhe : CA_held σ' (u2 P 6 (nLk G) (sN σ)) (lkG G c b f h) := by
    intro j hj
    replace hj : j < nCa G := hj
    refine (i25 j hj).trans ?_
    rw [lkG_18]
    by_cases q : j = c
    · rw [if_pos q, if_pos q]
    · rw [if_neg q, if_neg q]; exact hR.C.held j hj
  have la : ∀ j, j < nCa G → looksAt (lkG G c b f h) j = looksAt G j + if j = c then 1 else 0 := by
    intro j hj
    unfold looksAt
    rw [eN, fb_ct_succ, lkG_27, if_pos rfl]
    rw [fb_ct_cong (p := fun l => decide (lkG G c b f h 27 l = nI j)) (q := fun l => decide (G 27 l = nI j)) (fun k hk => by rw [lkG_27, if_neg (by omega)])]
    congr 1
    by_cases q : j = c
    · rw [if_pos q, q]; simp
    · rw [if_neg q, decide_eq_false (fun e => q ((nI_eq (by omega) (by omega)).mp e).symm)]; rfl
  have hlk : CA_lks σ' (u2 P 6 (nLk G) (sN σ)) (lkG G c b f h) := by
    intro j hj
    replace hj : j < nCa G := hj
    refine (i26 j hj).trans ?_
    rw [la j hj]
    by_cases q : j = c
    · rw [if_pos q, if_pos q, q]
    · rw [if_neg q, if_neg q]; exact hR.C.lks j hj
  have sh : ∀ l, l < nLk G → shipOf (lkG G c b f h) l = shipOf G l ∧ lkG G c b f h 29 l = G 29 l := fun l hl => by
    refine ⟨?_, by rw [lkG_29, if_neg (by omega)]⟩
    show tn (G 14 (tn (lkG G c b f h 27 l))) = tn (G 14 (tn (G 27 l)))
    rw [lkG_27, if_neg (by omega)]
  have sn : shipOf (lkG G c b f h) (nLk G) = gN G 14 c := by
    show tn (G 14 (tn (lkG G c b f h 27 (nLk G)))) = _
    rw [lkG_27, if_pos rfl, tn_nI (by omega)]
    rfl
  have hla : SH_last σ' (u2 P 6 (nLk G) (sN σ)) (lkG G c b f h) := by
    intro j hj
    replace hj : j < nSh G := hj
    refine (i67 j hj).trans ?_
    rw [eN, lastL, sn, lkG_29, if_pos rfl]
    by_cases q : j = gN G 14 c
    · rw [if_pos q, if_pos q.symm]
    · rw [if_neg q, if_neg (fun e => q e.symm), lastL_c j (nLk G) sh]
      exact hR.H.last j hj
  have hC : CA σ' (u2 P 6 (nLk G) (sN σ)) (lkG G c b f h) := ⟨(CA_at.k (P := P) (G := G) hR.C hR.F fr (fun _ => rfl) rfl), (CA_no.k (P := P) (G := G) hR.C hR.F fr rfl rfl), (CA_ship.k (P := P) (G := G) hR.C hR.F fr rfl rfl rfl), (CA_port.k (P := P) (G := G) hR.C hR.F fr rfl rfl rfl), (CA_from_.k (P := P) (G := G) hR.C hR.F fr rfl rfl rfl), (CA_over.k (P := P) (G := G) hR.C hR.F fr rfl rfl rfl), hhe, hlk⟩
  have hch : SH_chain σ' P (lkG G c b f h) := SH_chain.k hR.H hR.F fr (fun _ => rfl) rfl rfl rfl rfl rfl rfl rfl rfl rfl
  have hH : SH σ' (u2 P 6 (nLk G) (sN σ)) (lkG G c b f h) := ⟨(SH_at.k (P := P) (G := G) hR.H hR.F fr (fun _ => rfl) rfl), (SH_no.k (P := P) (G := G) hR.H hR.F fr rfl rfl), (SH_kind.k (P := P) (G := G) hR.H hR.F fr rfl rfl rfl), (SH_soc.k (P := P) (G := G) hR.H hR.F fr rfl rfl rfl), (SH_built.k (P := P) (G := G) hR.H hR.F fr rfl rfl rfl), (SH_lat.k (P := P) (G := G) hR.H hR.F fr rfl rfl), (SH_week.k (P := P) (G := G) hR.H hR.F fr rfl rfl), (SH_days.k (P := P) (G := G) hR.H hR.F fr rfl rfl), (SH_rest.k (P := P) (G := G) hR.H hR.F fr (fun _ => rfl) rfl rfl), (SH_berth.k (P := P) (G := G) hR.H hR.F fr rfl rfl rfl rfl rfl), hla, (SH_since.k (P := P) (G := G) hR.H hR.F fr rfl rfl rfl rfl), (SH_bans.k (P := P) (G := G) hR.H hR.F fr rfl rfl rfl), hch⟩
  have hS : SC σ' x (u2 P 6 (nLk G) (sN σ)) (lkG G c b f h) := ⟨((fr.num 1 hR.F.x (by decide) rfl).trans hR.S.shipN), ((fr.num 2 hR.F.x (by decide) rfl).trans hR.S.chN), ((fr.num 5 hR.F.x (by decide) rfl).trans hR.S.caN), i11, ((fr.num 9 hR.F.x (by decide) rfl).trans hR.S.trN), ((fr.num 11 hR.F.x (by decide) rfl).trans hR.S.day), ((fr.num 12 hR.F.x (by decide) rfl).trans hR.S.mon), ((fr.num 13 hR.F.x (by decide) rfl).trans hR.S.drN), ((fr.num 15 hR.F.x (by decide) rfl).trans hR.S.wtN), ((fr.num 1 hR.F.owners.2 (by decide) rfl).trans hR.S.wdN), ((fr.num 1 hR.F.tape.2 (by decide) rfl).trans hR.S.tpN), (fun j hj => (fr.num j hR.F.bytes.2 (by decide) rfl).trans (hR.S.tp j hj)), (fun j hj => (fr.num j hR.F.wait.2 (by decide) rfl).trans (hR.S.wt j hj)), (fun j hj => (fr.num j hR.F.fnds.2 (by decide) rfl).trans (hR.S.fd j hj))⟩
  have lt6 : ∀ l, l < nLk G → P 6 l < sN σ := fun l hl => hlt _ (by rw [(L.at l hl).2]; decide)
  have hJ : NJ (u2 P 6 (nLk G) (sN σ)) (lkG G c b f h) := by
    refine ⟨hR.J.1, hR.J.2.1, fun i j hi hj e => ?_⟩
    rw [eN] at hi hj
    by_cases a : i = nLk G <;> by_cases b : j = nLk G
    · omega
    · rw [a, n6, q6 j (by omega)] at e; have := lt6 j (by omega); omega
    · rw [b, n6, q6 i (by omega)] at e; have := lt6 i (by omega); omega
    · rw [q6 i (by omega), q6 j (by omega)] at e; exact hR.J.2.2 i j (by omega) (by omega) e
  exact ⟨(hR.F.k fr (fun _ => rfl) rfl rfl (fun _ => rfl)), hS, (hR.O.k hR.F fr (fun _ => rfl) rfl rfl rfl), hH, hC, hL, ⟨(TR_at.k (P := P) (G := G) hR.T hR.F fr (fun _ => rfl) rfl), (TR_from_.k (P := P) (G := G) hR.T hR.F fr rfl rfl rfl), (TR_wts.k (P := P) (G := G) hR.T hR.F fr rfl rfl), (TR_grv.k (P := P) (G := G) hR.T hR.F fr rfl rfl), (TR_lim.k (P := P) (G := G) hR.T hR.F fr rfl rfl rfl), (TR_wt.k (P := P) (G := G) hR.T hR.F fr (fun _ => rfl) rfl rfl), (TR_gr.k (P := P) (G := G) hR.T hR.F fr (fun _ => rfl) rfl rfl)⟩, hJ⟩
set_option maxRecDepth 100000 in
theorem k_look (hR : Rp σ x P G) (hI : Inv G) (c b f : Int32) (hp : PU x σ (s_look G c b f) post) : MX10_look E 6 8 64 [.ref x, .int c, .int b, .int f] σ post := by
  refine MA.of RX10 "look" [some (.ref x), some (.int c), some (.int b), some (.int f), none, none, none] rfl rfl rfl (catAll rfl) (Nat.le_of_ble_eq_true rfl) rfl (fun X => ?_)
  refine V.lt (fun hlt => ?_)
  have h50 := hI.caN.2
  have h60 := hI.lkN
  have h16 := hI.shN.2
  by_cases hs : 0 ≤ c.toInt ∧ c.toInt < nCa G
  · obtain ⟨i, hi, rfl⟩ := idxOf hs
    have hca := hI.ca i hi
    have hkd := hI.kind _ hca.2
    have hz : (0 ≤ b.toInt ∧ b.toInt ≤ 5) ∧ 0 ≤ f.toInt ∧ f.toInt ≤ 1023 → s_look G (nI i) b f = (if 0 ≤ (G 17 i).toInt then fnd G 3 else if nLk G = 60 then fnd G 4 else
      (nI (nLk G), if hldB G (gN G 14 i) f then banG (lkG G i b f (b2 (hldB G (gN G 14 i) f = true))) (gN G 14 i) else lkG G i b f (b2 (hldB G (gN G 14 i) f = true)))) := fun h => by
      unfold s_look lookG
      rw [tn_nI (by omega), if_pos ⟨by omega, h.1, h.2⟩]
      rfl
    -- from the answer 'does it hold' on
    have tail : (0 ≤ b.toInt ∧ b.toInt ≤ 5) → (0 ≤ f.toInt ∧ f.toInt ≤ 1023) → ¬ 0 ≤ (G 17 i).toInt → nLk G < 60 → ∀ l5, V E X RX10 "look" cX10_look 7 (some .int) 6 8 64 (QM E X post 8 64) σ 0 0 103 [some (.ref x), some (.int (nI i)), some (.int b), some (.int f), some (.ref (P 5 i)), l5, none] [.int (b2 (hldB G (gN G 14 i) f = true))] := by
      intro hb hf hov hn l5
      have hz2 := (hz ⟨hb, hf⟩).trans ((if_neg hov).trans (if_neg (by omega)))
      have hIL : Inv (lkG G i b f (b2 (hldB G (gN G 14 i) f = true))) ∧ nLk (lkG G i b f (b2 (hldB G (gN G 14 i) f = true))) = nLk G + 1 := by
        have q := inv_lookG hI (nI i) b f (by omega) hf (by omega)
        unfold lookG at q
        rw [tn_nI (by omega)] at q
        exact q
      have h01 := b2_01 (hldB G (gN G 14 i) f = true)
      have hbt : b2 (hldB G (gN G 14 i) f = true) = 0 ↔ ¬ hldB G (gN G 14 i) f = true := b2_eq0
      generalize hv : b2 (hldB G (gN G 14 i) f = true) = v at hIL h01 hbt hz2
      have nN : nw σ (loS (wN σ 3) (sN σ) (P 5 i) b (G 0 0) f v) := (((((nw.rfl'.N 3).R (Nat.le_refl _)).I (Nat.le_refl _)).I (Nat.le_refl _)).I (Nat.le_refl _)).I (Nat.le_refl _)
      have fC : frk (fun _ _ => true) (fun _ _ => true) σ (loS (wN σ 3) (sN σ) (P 5 i) b (G 0 0) f v) := nN.frk hlt
      have fN : frk (fun _ _ => true) (fun _ _ => true) σ (wN σ 3) := frk.wN hlt
      have hFN := hR.F.k fN (fun _ => rfl) rfl rfl (fun _ => rfl)
      have hFC := hR.F.k fC (fun _ => rfl) rfl rfl (fun _ => rfl)
      have tC5 := fC.tag (hR.C.at i hi).2 (by decide)
      have tC1 := fC.tag (hR.H.at _ hca.2).2 (by decide)
      have hRL := look_rp (b := b) (f := f) (h := v) hR hI hlt hi hn
      refine V.istore6 (by decide) dX10_look_103 ?_
      refine V.aload_n (i := 0) dX10_look_105 rfl rfl ?_
      refine V.getS dX10_look_106 fl_X10_30 rfl hR.F.x hR.F.looks.1 ?_
      refine V.aload_n (i := 0) dX10_look_109 rfl rfl ?_
      refine V.geti dX10_look_110 fl_X10_210 rfl hR.F.x ?_
      refine V.as _ (hR.S.lkN.trans h60.1) ?_
      refine V.new (ci := 2) dX10_look_113 (by decide) wk_X10_28 wx_X2 wn_X2 (by decide) (by decide) ?_
      refine V.dup dX10_look_116 rfl ?_
      refine V.aload (i := 4) dX10_look_117 rfl ?_
      refine V.iload_n (i := 2) dX10_look_119 rfl rfl ?_
      refine V.aload_n (i := 0) dX10_look_120 rfl rfl ?_
      refine V.geti dX10_look_121 fl_X10_79 rfl hFN.x ?_
      refine V.as (G 0 0) ((fN.num 11 hR.F.x (by decide) rfl).trans hR.S.day) ?_
      refine V.iload_n (i := 3) dX10_look_124 rfl rfl ?_
      refine V.iload (i := 6) dX10_look_125 rfl ?_
      refine V.ci5U dX10_look_127 lk_X10_216 (k_lookInit (σ := wN σ 3) (a := sN σ) (if_pos rfl) _ _ _ _ h01 ⟨rfl, rfl⟩) (by decide) (by decide) (Nat.le_of_ble_eq_true rfl) (Nat.le_of_ble_eq_true rfl) (Nat.le_of_ble_eq_true rfl) ?_
      refine V.aast (t := 34) dX10_look_130 hFC.looks.2 (by decide) (by decide) rfl (show _ < 60 from hn) (by decide) (show sT (wN σ 3) (sN σ) = 3 from if_pos rfl) ?_
      refine V.aload_n (i := 0) dX10_look_131 rfl rfl ?_
      refine V.dup dX10_look_132 rfl ?_
      refine V.geti dX10_look_133 fl_X10_210 rfl hFC.x ?_
      refine V.as (nI (nLk G)) ((fC.num 7 hR.F.x (by decide) rfl).trans (hR.S.lkN.trans h60.1)) ?_
      refine V.iconst dX10_look_136 ic_1 ?_
      refine V.iadd dX10_look_137 ?_
      refine V.as _ (nI_add _ _) ?_
      refine V.puti dX10_look_138 fl_X10_210 rfl rfl hFC.x ?_
      refine V.aload (i := 4) dX10_look_141 rfl ?_
      refine V.dup dX10_look_143 rfl ?_
      refine V.geti dX10_look_144 fl_X10_175 rfl tC5 ?_
      refine V.as (nI (looksAt G i)) (by rw [sI_wI, if_neg (by simp)]; exact (fC.num 6 (hR.C.at i hi).2 (by decide) rfl).trans (hR.C.lks i hi)) ?_
      refine V.iconst dX10_look_147 ic_1 ?_
      refine V.iadd dX10_look_148 ?_
      refine V.as _ (nI_add _ _) ?_
      refine V.puti dX10_look_149 fl_X10_175 rfl rfl tC5 ?_
      refine V.aload (i := 4) dX10_look_152 rfl ?_
      refine V.iload (i := 6) dX10_look_154 rfl ?_
      refine V.putz dX10_look_156 fl_X10_157 rfl rfl h01 tC5 ?_
      refine V.aload (i := 4) dX10_look_159 rfl ?_
      refine V.getS dX10_look_161 fl_X10_164 rfl tC5 ((fC.ref 1 (hR.C.at i hi).2 (by decide) rfl).trans (hR.C.ship i hi)) ?_
      refine V.aload_n (i := 0) dX10_look_164 rfl rfl ?_
      refine V.geti dX10_look_165 fl_X10_79 rfl hFC.x ?_
      refine V.as (G 0 0) (by rw [sI_wI, if_neg (by simp), sI_wI, if_neg (by simp), sI_wI, if_neg (by simp)]; exact (fC.num 11 hR.F.x (by decide) rfl).trans hR.S.day) ?_
      refine V.puti dX10_look_168 fl_X10_219 rfl rfl tC1 ?_
      refine V.sts (σ' := lkS σ x P G i b f v) rfl ?_
      refine V.iload (i := 6) dX10_look_171 rfl ?_
      refine V.if_eq (tgt := 185) dX10_look_173 rfl (fun c173 => ?_) (fun c173 => ?_)
      · rw [hbt] at c173
        refine V.aload_n (i := 0) dX10_look_185 rfl rfl ?_
        refine V.geti dX10_look_186 fl_X10_210 rfl (by first | exact hRL.F.x | exact h182.1.F.x) ?_
        first | refine V.as (nI (nLk G + 1)) ((hRL.S.lkN.trans hIL.1.lkN.1).trans (congrArg nI hIL.2)) ?_ | refine V.as (nI (nLk G + 1)) ((h182.1.S.lkN.trans (inv_ban hIL.1 _ hca.2).lkN.1).trans (congrArg nI ((ban_nLk _ _).trans hIL.2))) ?_
        refine V.iconst dX10_look_189 ic_1 ?_
        refine V.isub dX10_look_190 ?_
        refine V.as (nI (nLk G)) (show nI (nLk G + 1) - nI 1 = _ from pk_sub (by omega)) ?_
        refine V.iret dX10_look_191 (Nat.le_of_ble_eq_true rfl) (Nat.le_of_ble_eq_true rfl) ?_
        first | exact pu hp (hz2.trans (by rw [if_neg c173])) hRL nN.2.2.2.1 | exact pu hp (hz2.trans (by rw [if_pos (Classical.not_not.mp c173)])) h182.1 (h182.2.trans nN.2.2.2.1)
      · rw [hbt] at c173
        refine V.aload_n (i := 0) dX10_look_176 rfl rfl ?_
        refine V.aload (i := 4) dX10_look_177 rfl ?_
        refine V.getS dX10_look_179 fl_X10_164 rfl (hRL.C.at i hi).2 (hRL.C.ship i hi) ?_
        refine V.cv1v (ci := 10) dX10_look_182 lk_X10_222 (by decide) rfl hRL.F.x (k_banIfDue hRL hIL.1 (gN G 14 i) hca.2 (fun s h => ⟨rfl, h⟩)) (by decide) (by decide) (Nat.le_of_ble_eq_true rfl) (Nat.le_of_ble_eq_true rfl) (Nat.le_of_ble_eq_true rfl) (fun s182 h182 => ?_)
        refine V.aload_n (i := 0) dX10_look_185 rfl rfl ?_
        refine V.geti dX10_look_186 fl_X10_210 rfl (by first | exact hRL.F.x | exact h182.1.F.x) ?_
        first | refine V.as (nI (nLk G + 1)) ((hRL.S.lkN.trans hIL.1.lkN.1).trans (congrArg nI hIL.2)) ?_ | refine V.as (nI (nLk G + 1)) ((h182.1.S.lkN.trans (inv_ban hIL.1 _ hca.2).lkN.1).trans (congrArg nI ((ban_nLk _ _).trans hIL.2))) ?_
        refine V.iconst dX10_look_189 ic_1 ?_
        refine V.isub dX10_look_190 ?_
        refine V.as (nI (nLk G)) (show nI (nLk G + 1) - nI 1 = _ from pk_sub (by omega)) ?_
        refine V.iret dX10_look_191 (Nat.le_of_ble_eq_true rfl) (Nat.le_of_ble_eq_true rfl) ?_
        first | exact pu hp (hz2.trans (by rw [if_neg c173])) hRL nN.2.2.2.1 | exact pu hp (hz2.trans (by rw [if_pos (Classical.not_not.mp c173)])) h182.1 (h182.2.trans nN.2.2.2.1)
    cases hf : frc G (G 0 0) with
    | none =>
      have hh : hldB G (gN G 14 i) f = false := by unfold hldB; rw [hf]
      have tl := tail
      rw [b2F (by rw [hh]; decide)] at tl
      refine V.aload_n (i := 0) dX10_look_0 rfl rfl ?_
      refine V.iload_n (i := 1) dX10_look_1 rfl rfl ?_
      refine V.cv1D (ci := 10) dX10_look_2 lk_X10_150 (by decide) rfl hR.F.x (k_callAtY hR hI i hi ⟨rfl, rfl⟩) (by decide) (by decide) (Nat.le_of_ble_eq_true rfl) (Nat.le_of_ble_eq_true rfl) (Nat.le_of_ble_eq_true rfl) ?_
      refine V.astore4 (by decide) dX10_look_5 ?_
      refine V.aload (i := 4) dX10_look_7 rfl ?_
      refine V.ifnull dX10_look_9 ?_
      refine V.iload_n (i := 2) dX10_look_12 rfl rfl ?_
      refine V.bipush dX10_look_13 bc_6 ?_
      refine V.cs2D dX10_look_15 lk_X10_96 (k_isBelowN _ 6 (by decide) ⟨rfl, rfl⟩) (by decide) (by decide) (Nat.le_of_ble_eq_true rfl) (Nat.le_of_ble_eq_true rfl) (Nat.le_of_ble_eq_true rfl) ?_
      refine V.ifb_eq (tgt := 31) dX10_look_18 rfl (fun c18 => ?_) (fun c18 => ?_)
      · refine V.aload_n (i := 0) dX10_look_31 rfl rfl ?_
        refine V.iconst dX10_look_32 ic_1 ?_
        refine V.cv1D (ci := 10) dX10_look_33 lk_X10_82 (by decide) rfl hR.F.x (k_finding hR _ (by decide) ⟨rfl, rfl⟩) (by decide) (by decide) (Nat.le_of_ble_eq_true rfl) (Nat.le_of_ble_eq_true rfl) (Nat.le_of_ble_eq_true rfl) ?_
        refine V.iret dX10_look_36 (Nat.le_of_ble_eq_true rfl) (Nat.le_of_ble_eq_true rfl) ?_
        exact puF hp (if_neg (by omega)) hR rfl
      · refine V.iload_n (i := 3) dX10_look_21 rfl rfl ?_
        refine V.sipush dX10_look_22 sc_1024 ?_
        refine V.cs2D dX10_look_25 lk_X10_96 (k_isBelowN _ 1024 (by decide) ⟨rfl, rfl⟩) (by decide) (by decide) (Nat.le_of_ble_eq_true rfl) (Nat.le_of_ble_eq_true rfl) (Nat.le_of_ble_eq_true rfl) ?_
        refine V.ifb_ne (tgt := 37) dX10_look_28 rfl (fun c28 => ?_) (fun c28 => ?_)
        · refine V.aload (i := 4) dX10_look_37 rfl ?_
          refine V.cv0D (ci := 1) dX10_look_39 lk_X10_154 (by decide) rfl (hR.C.at i hi).2 (k_isOver hR i hi ⟨rfl, rfl⟩) (by decide) (by decide) (Nat.le_of_ble_eq_true rfl) (Nat.le_of_ble_eq_true rfl) (Nat.le_of_ble_eq_true rfl) ?_
          refine V.ifb_eq (tgt := 51) dX10_look_42 rfl (fun c42 => ?_) (fun c42 => ?_)
          · refine V.aload_n (i := 0) dX10_look_51 rfl rfl ?_
            refine V.geti dX10_look_52 fl_X10_210 rfl hR.F.x ?_
            refine V.as _ (hR.S.lkN.trans h60.1) ?_
            refine V.bipush dX10_look_55 bc_60 ?_
            refine V.icmp_lt (tgt := 66) dX10_look_57 rfl (fun c57 => ?_) (fun c57 => ?_)
            · rw [nI_ltI (by omega) (by decide)] at c57
              refine V.aload_n (i := 0) dX10_look_66 rfl rfl ?_
              refine V.aload_n (i := 0) dX10_look_67 rfl rfl ?_
              refine V.geti dX10_look_68 fl_X10_79 rfl hR.F.x ?_
              refine V.as _ hR.S.day ?_
              refine V.cv1D (ci := 10) dX10_look_71 lk_X10_197 (by decide) rfl hR.F.x (k_treatyInForceN hR hI _ hf ⟨rfl, rfl⟩) (by decide) (by decide) (Nat.le_of_ble_eq_true rfl) (Nat.le_of_ble_eq_true rfl) (Nat.le_of_ble_eq_true rfl) ?_
              refine V.astore5N (by decide) dX10_look_74 ?_
              refine V.aloadN (i := 5) dX10_look_76 rfl ?_
              refine V.ifnullN (tgt := 102) dX10_look_78 rfl ?_
              refine V.iconst dX10_look_102 ic_0 ?_
              exact tl (by omega) (by omega) c42 c57 _
            · rw [nI_ltI (by omega) (by decide)] at c57
              refine V.aload_n (i := 0) dX10_look_60 rfl rfl ?_
              refine V.iconst dX10_look_61 ic_4 ?_
              refine V.cv1D (ci := 10) dX10_look_62 lk_X10_82 (by decide) rfl hR.F.x (k_finding hR _ (by decide) ⟨rfl, rfl⟩) (by decide) (by decide) (Nat.le_of_ble_eq_true rfl) (Nat.le_of_ble_eq_true rfl) (Nat.le_of_ble_eq_true rfl) ?_
              refine V.iret dX10_look_65 (Nat.le_of_ble_eq_true rfl) (Nat.le_of_ble_eq_true rfl) ?_
              exact puF hp ((hz (by omega)).trans ((if_neg c42).trans (if_pos (by omega)))) hR rfl
          · refine V.aload_n (i := 0) dX10_look_45 rfl rfl ?_
            refine V.iconst dX10_look_46 ic_3 ?_
            refine V.cv1D (ci := 10) dX10_look_47 lk_X10_82 (by decide) rfl hR.F.x (k_finding hR _ (by decide) ⟨rfl, rfl⟩) (by decide) (by decide) (Nat.le_of_ble_eq_true rfl) (Nat.le_of_ble_eq_true rfl) (Nat.le_of_ble_eq_true rfl) ?_
            refine V.iret dX10_look_50 (Nat.le_of_ble_eq_true rfl) (Nat.le_of_ble_eq_true rfl) ?_
            exact puF hp ((hz (by omega)).trans (if_pos c42)) hR rfl
        · refine V.aload_n (i := 0) dX10_look_31 rfl rfl ?_
          refine V.iconst dX10_look_32 ic_1 ?_
          refine V.cv1D (ci := 10) dX10_look_33 lk_X10_82 (by decide) rfl hR.F.x (k_finding hR _ (by decide) ⟨rfl, rfl⟩) (by decide) (by decide) (Nat.le_of_ble_eq_true rfl) (Nat.le_of_ble_eq_true rfl) (Nat.le_of_ble_eq_true rfl) ?_
          refine V.iret dX10_look_36 (Nat.le_of_ble_eq_true rfl) (Nat.le_of_ble_eq_true rfl) ?_
          exact puF hp (if_neg (by omega)) hR rfl
    | some t =>
      have ht : t < nTr G := frcK_lt G _ _ t hf
      have hh : hldB G (gN G 14 i) f = true ↔ (¬ (G 25 (4 * t + gN G 2 (gN G 14 i)) &&& f) = 0 ∨ G 23 t ≤ sumW G t f 10) := by unfold hldB; rw [hf]; exact decide_eq_true_iff
      have tl := tail
      rw [b2_congr hh] at tl
      refine V.aload_n (i := 0) dX10_look_0 rfl rfl ?_
      refine V.iload_n (i := 1) dX10_look_1 rfl rfl ?_
      refine V.cv1D (ci := 10) dX10_look_2 lk_X10_150 (by decide) rfl hR.F.x (k_callAtY hR hI i hi ⟨rfl, rfl⟩) (by decide) (by decide) (Nat.le_of_ble_eq_true rfl) (Nat.le_of_ble_eq_true rfl) (Nat.le_of_ble_eq_true rfl) ?_
      refine V.astore4 (by decide) dX10_look_5 ?_
      refine V.aload (i := 4) dX10_look_7 rfl ?_
      refine V.ifnull dX10_look_9 ?_
      refine V.iload_n (i := 2) dX10_look_12 rfl rfl ?_
      refine V.bipush dX10_look_13 bc_6 ?_
      refine V.cs2D dX10_look_15 lk_X10_96 (k_isBelowN _ 6 (by decide) ⟨rfl, rfl⟩) (by decide) (by decide) (Nat.le_of_ble_eq_true rfl) (Nat.le_of_ble_eq_true rfl) (Nat.le_of_ble_eq_true rfl) ?_
      refine V.ifb_eq (tgt := 31) dX10_look_18 rfl (fun c18 => ?_) (fun c18 => ?_)
      · refine V.aload_n (i := 0) dX10_look_31 rfl rfl ?_
        refine V.iconst dX10_look_32 ic_1 ?_
        refine V.cv1D (ci := 10) dX10_look_33 lk_X10_82 (by decide) rfl hR.F.x (k_finding hR _ (by decide) ⟨rfl, rfl⟩) (by decide) (by decide) (Nat.le_of_ble_eq_true rfl) (Nat.le_of_ble_eq_true rfl) (Nat.le_of_ble_eq_true rfl) ?_
        refine V.iret dX10_look_36 (Nat.le_of_ble_eq_true rfl) (Nat.le_of_ble_eq_true rfl) ?_
        exact puF hp (if_neg (by omega)) hR rfl
      · refine V.iload_n (i := 3) dX10_look_21 rfl rfl ?_
        refine V.sipush dX10_look_22 sc_1024 ?_
        refine V.cs2D dX10_look_25 lk_X10_96 (k_isBelowN _ 1024 (by decide) ⟨rfl, rfl⟩) (by decide) (by decide) (Nat.le_of_ble_eq_true rfl) (Nat.le_of_ble_eq_true rfl) (Nat.le_of_ble_eq_true rfl) ?_
        refine V.ifb_ne (tgt := 37) dX10_look_28 rfl (fun c28 => ?_) (fun c28 => ?_)
        · refine V.aload (i := 4) dX10_look_37 rfl ?_
          refine V.cv0D (ci := 1) dX10_look_39 lk_X10_154 (by decide) rfl (hR.C.at i hi).2 (k_isOver hR i hi ⟨rfl, rfl⟩) (by decide) (by decide) (Nat.le_of_ble_eq_true rfl) (Nat.le_of_ble_eq_true rfl) (Nat.le_of_ble_eq_true rfl) ?_
          refine V.ifb_eq (tgt := 51) dX10_look_42 rfl (fun c42 => ?_) (fun c42 => ?_)
          · refine V.aload_n (i := 0) dX10_look_51 rfl rfl ?_
            refine V.geti dX10_look_52 fl_X10_210 rfl hR.F.x ?_
            refine V.as _ (hR.S.lkN.trans h60.1) ?_
            refine V.bipush dX10_look_55 bc_60 ?_
            refine V.icmp_lt (tgt := 66) dX10_look_57 rfl (fun c57 => ?_) (fun c57 => ?_)
            · rw [nI_ltI (by omega) (by decide)] at c57
              refine V.aload_n (i := 0) dX10_look_66 rfl rfl ?_
              refine V.aload_n (i := 0) dX10_look_67 rfl rfl ?_
              refine V.geti dX10_look_68 fl_X10_79 rfl hR.F.x ?_
              refine V.as _ hR.S.day ?_
              refine V.cv1D (ci := 10) dX10_look_71 lk_X10_197 (by decide) rfl hR.F.x (k_treatyInForceY hR hI _ hf ⟨rfl, rfl⟩) (by decide) (by decide) (Nat.le_of_ble_eq_true rfl) (Nat.le_of_ble_eq_true rfl) (Nat.le_of_ble_eq_true rfl) ?_
              refine V.astore5 (by decide) dX10_look_74 ?_
              refine V.aload (i := 5) dX10_look_76 rfl ?_
              refine V.ifnull dX10_look_78 ?_
              refine V.aload (i := 5) dX10_look_81 rfl ?_
              refine V.aload (i := 4) dX10_look_83 rfl ?_
              refine V.getS dX10_look_85 fl_X10_164 rfl (hR.C.at i hi).2 (hR.C.ship i hi) ?_
              refine V.geti dX10_look_88 fl_X10_100 rfl (hR.H.at _ hca.2).2 ?_
              refine V.as _ ((hR.H.kind _ hca.2).trans hkd.1) ?_
              refine V.iload_n (i := 3) dX10_look_91 rfl rfl ?_
              refine V.cv2D (ci := 9) dX10_look_92 lk_X10_213 (by decide) rfl (hR.T.at t ht).2 (k_holdsFor hR t _ f ht hkd.2 ⟨rfl, rfl⟩) (by decide) (by decide) (Nat.le_of_ble_eq_true rfl) (Nat.le_of_ble_eq_true rfl) (Nat.le_of_ble_eq_true rfl) ?_
              refine V.ifb_eq (tgt := 102) dX10_look_95 rfl (fun c95 => ?_) (fun c95 => ?_)
              · refine V.iconst dX10_look_102 ic_0 ?_
                first | (rw [b2T c95] at tl; exact tl (by omega) (by omega) c42 c57 _) | (rw [b2F c95] at tl; exact tl (by omega) (by omega) c42 c57 _)
              · refine V.iconst dX10_look_98 ic_1 ?_
                refine V.goto (tgt := 103) dX10_look_99 rfl ?_
                first | (rw [b2T c95] at tl; exact tl (by omega) (by omega) c42 c57 _) | (rw [b2F c95] at tl; exact tl (by omega) (by omega) c42 c57 _)
            · rw [nI_ltI (by omega) (by decide)] at c57
              refine V.aload_n (i := 0) dX10_look_60 rfl rfl ?_
              refine V.iconst dX10_look_61 ic_4 ?_
              refine V.cv1D (ci := 10) dX10_look_62 lk_X10_82 (by decide) rfl hR.F.x (k_finding hR _ (by decide) ⟨rfl, rfl⟩) (by decide) (by decide) (Nat.le_of_ble_eq_true rfl) (Nat.le_of_ble_eq_true rfl) (Nat.le_of_ble_eq_true rfl) ?_
              refine V.iret dX10_look_65 (Nat.le_of_ble_eq_true rfl) (Nat.le_of_ble_eq_true rfl) ?_
              exact puF hp ((hz (by omega)).trans ((if_neg c42).trans (if_pos (by omega)))) hR rfl
          · refine V.aload_n (i := 0) dX10_look_45 rfl rfl ?_
            refine V.iconst dX10_look_46 ic_3 ?_
            refine V.cv1D (ci := 10) dX10_look_47 lk_X10_82 (by decide) rfl hR.F.x (k_finding hR _ (by decide) ⟨rfl, rfl⟩) (by decide) (by decide) (Nat.le_of_ble_eq_true rfl) (Nat.le_of_ble_eq_true rfl) (Nat.le_of_ble_eq_true rfl) ?_
            refine V.iret dX10_look_50 (Nat.le_of_ble_eq_true rfl) (Nat.le_of_ble_eq_true rfl) ?_
            exact puF hp ((hz (by omega)).trans (if_pos c42)) hR rfl
        · refine V.aload_n (i := 0) dX10_look_31 rfl rfl ?_
          refine V.iconst dX10_look_32 ic_1 ?_
          refine V.cv1D (ci := 10) dX10_look_33 lk_X10_82 (by decide) rfl hR.F.x (k_finding hR _ (by decide) ⟨rfl, rfl⟩) (by decide) (by decide) (Nat.le_of_ble_eq_true rfl) (Nat.le_of_ble_eq_true rfl) (Nat.le_of_ble_eq_true rfl) ?_
          refine V.iret dX10_look_36 (Nat.le_of_ble_eq_true rfl) (Nat.le_of_ble_eq_true rfl) ?_
          exact puF hp (if_neg (by omega)) hR rfl
  · skip
    refine V.aload_n (i := 0) dX10_look_0 rfl rfl ?_
    refine V.iload_n (i := 1) dX10_look_1 rfl rfl ?_
    refine V.cv1D (ci := 10) dX10_look_2 lk_X10_150 (by decide) rfl hR.F.x (k_callAtN hR hI c hs ⟨rfl, rfl⟩) (by decide) (by decide) (Nat.le_of_ble_eq_true rfl) (Nat.le_of_ble_eq_true rfl) (Nat.le_of_ble_eq_true rfl) ?_
    refine V.astore4N (by decide) dX10_look_5 ?_
    refine V.aloadN (i := 4) dX10_look_7 rfl ?_
    refine V.ifnullN (tgt := 31) dX10_look_9 rfl ?_
    refine V.aload_n (i := 0) dX10_look_31 rfl rfl ?_
    refine V.iconst dX10_look_32 ic_1 ?_
    refine V.cv1D (ci := 10) dX10_look_33 lk_X10_82 (by decide) rfl hR.F.x (k_finding hR _ (by decide) ⟨rfl, rfl⟩) (by decide) (by decide) (Nat.le_of_ble_eq_true rfl) (Nat.le_of_ble_eq_true rfl) (Nat.le_of_ble_eq_true rfl) ?_
    refine V.iret dX10_look_36 (Nat.le_of_ble_eq_true rfl) (Nat.le_of_ble_eq_true rfl) ?_
    exact puF hp (if_neg (fun z => hs z.1)) hR rfl
end LOOK

