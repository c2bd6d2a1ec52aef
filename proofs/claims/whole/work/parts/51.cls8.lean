/-! ===== the class: calls that write a field or a row ===== -/
theorem openK_cg {G G' : GS} {s : Int32} : ∀ n, (∀ c, c < n → ((G' 14 c = s ∧ (G' 17 c).toInt < 0) ↔ (G 14 c = s ∧ (G 17 c).toInt < 0))) → openK G' s n = openK G s n
  | 0, _ => rfl
  | n + 1, h => by
    have ih := openK_cg n (fun c hc => h c (by omega))
    have hn := h n (by omega)
    unfold openK
    by_cases q : G 14 n = s ∧ (G 17 n).toInt < 0
    · rw [if_pos q, if_pos (hn.mpr q)]
    · rw [if_neg q, if_neg (fun z => q (hn.mp z)), ih]
theorem openK_no {G : GS} {s : Int32} : ∀ n, (∀ c, c < n → ¬ (G 14 c = s ∧ (G 17 c).toInt < 0)) → openK G s n = none
  | 0, _ => rfl
  | n + 1, h => by
    unfold openK
    rw [if_neg (h n (by omega)), openK_no n (fun c hc => h c (by omega))]
theorem openK_is {G : GS} {s : Int32} : ∀ n c, openK G s n = some c → c < n ∧ G 14 c = s ∧ (G 17 c).toInt < 0
  | 0, c, h => by cases h
  | n + 1, c, h => by
    unfold openK at h
    by_cases q : G 14 n = s ∧ (G 17 n).toInt < 0
    · rw [if_pos q] at h
      cases h
      exact ⟨by omega, q⟩
    · rw [if_neg q] at h
      have := openK_is n c h
      exact ⟨by omega, this.2⟩
theorem grp_c {G G' : GS} : ∀ n, (∀ w, w < n → G' 11 w = G 11 w ∧ G' 12 w = G 12 w) → ∀ a, grp G' n a = grp G n a
  | 0, _, a => rfl
  | n + 1, h, a => by
    have ih := grp_c n (fun w hw => h w (by omega))
    have hn := h n (by omega)
    unfold grp gN
    rw [hn.1, hn.2, ih, ih, ih]
section CLS8
variable {E : VE} {σ : Sg} {G : GS} {x : Nat} {P : PT} {post : Option Value → Sg → Prop}
set_option maxRecDepth 100000 in
theorem k_lift (hR : Rp σ x P G) (hI : Inv G) (s : Int32) (hp : PU x σ (s_lift G s) post) : MX10_lift E 3 0 0 [.ref x, .int s] σ post := by
  refine MA.of RX10 "lift" [some (.ref x), some (.int s), none] rfl rfl rfl (catAll rfl) (Nat.le_of_ble_eq_true rfl) rfl (fun X => ?_)
  have h16 := hI.shN.2
  by_cases hs : 0 ≤ s.toInt ∧ s.toInt < nSh G
  · obtain ⟨i, hi, rfl⟩ := idxOf hs
    have hz : s_lift G (nI i) = (if G 36 i = 0 ∨ openOf G (nI i) ≠ none ∨ G 0 0 - G 38 i < nI 90 * G 37 i then fnd G 3 else (nI 1, u2 G 36 i (nI 0))) := by unfold s_lift; rw [tn_nI (by omega), if_pos (by omega)]
    have hb := hR.H.berth i hi
    cases ho : openOf G (nI i) with
    | some c =>
      rw [ho] at hb
      refine V.aload_n (i := 0) dX10_lift_0 rfl rfl ?_
      refine V.iload_n (i := 1) dX10_lift_1 rfl rfl ?_
      refine V.cv1D (ci := 10) dX10_lift_2 lk_X10_92 (by decide) rfl hR.F.x (k_shipAtY hR hI i hi ⟨rfl, rfl⟩) (by decide) (by decide) (Nat.le_of_ble_eq_true rfl) (Nat.le_of_ble_eq_true rfl) (Nat.le_of_ble_eq_true rfl) ?_
      refine V.astore_n2 (by decide) dX10_lift_5 ?_
      refine V.aload_n (i := 2) dX10_lift_6 rfl rfl ?_
      refine V.ifnonnull (tgt := 16) dX10_lift_7 rfl ?_
      refine V.aload_n (i := 2) dX10_lift_16 rfl rfl ?_
      refine V.cv0D (ci := 5) dX10_lift_17 lk_X10_137 (by decide) rfl (hR.H.at i hi).2 (k_isBanned hR hI i hi ⟨rfl, rfl⟩) (by decide) (by decide) (Nat.le_of_ble_eq_true rfl) (Nat.le_of_ble_eq_true rfl) (Nat.le_of_ble_eq_true rfl) ?_
      refine V.ifb_eq (tgt := 49) dX10_lift_20 rfl (fun c20 => ?_) (fun c20 => ?_)
      · refine V.aload_n (i := 0) dX10_lift_49 rfl rfl ?_
        refine V.iconst dX10_lift_50 ic_3 ?_
        refine V.cv1D (ci := 10) dX10_lift_51 lk_X10_82 (by decide) rfl hR.F.x (k_finding hR _ (by decide) ⟨rfl, rfl⟩) (by decide) (by decide) (Nat.le_of_ble_eq_true rfl) (Nat.le_of_ble_eq_true rfl) (Nat.le_of_ble_eq_true rfl) ?_
        refine V.iret dX10_lift_54 (Nat.le_of_ble_eq_true rfl) (Nat.le_of_ble_eq_true rfl) ?_
        exact puF hp (hz.trans (if_pos (by first | exact Or.inl (Classical.not_not.mp c20) | exact Or.inr (Or.inl (by rw [ho]; exact Option.some_ne_none _)) | exact Or.inr (Or.inr (Int32.not_le.mp c46))))) hR rfl
      · refine V.aload_n (i := 2) dX10_lift_23 rfl rfl ?_
        refine V.getS dX10_lift_24 fl_X10_133 rfl (hR.H.at i hi).2 hb ?_
        refine V.ifnonnull (tgt := 49) dX10_lift_27 rfl ?_
        refine V.aload_n (i := 0) dX10_lift_49 rfl rfl ?_
        refine V.iconst dX10_lift_50 ic_3 ?_
        refine V.cv1D (ci := 10) dX10_lift_51 lk_X10_82 (by decide) rfl hR.F.x (k_finding hR _ (by decide) ⟨rfl, rfl⟩) (by decide) (by decide) (Nat.le_of_ble_eq_true rfl) (Nat.le_of_ble_eq_true rfl) (Nat.le_of_ble_eq_true rfl) ?_
        refine V.iret dX10_lift_54 (Nat.le_of_ble_eq_true rfl) (Nat.le_of_ble_eq_true rfl) ?_
        exact puF hp (hz.trans (if_pos (by first | exact Or.inl (Classical.not_not.mp c20) | exact Or.inr (Or.inl (by rw [ho]; exact Option.some_ne_none _)) | exact Or.inr (Or.inr (Int32.not_le.mp c46))))) hR rfl
    | none =>
      rw [ho] at hb
      refine V.aload_n (i := 0) dX10_lift_0 rfl rfl ?_
      refine V.iload_n (i := 1) dX10_lift_1 rfl rfl ?_
      refine V.cv1D (ci := 10) dX10_lift_2 lk_X10_92 (by decide) rfl hR.F.x (k_shipAtY hR hI i hi ⟨rfl, rfl⟩) (by decide) (by decide) (Nat.le_of_ble_eq_true rfl) (Nat.le_of_ble_eq_true rfl) (Nat.le_of_ble_eq_true rfl) ?_
      refine V.astore_n2 (by decide) dX10_lift_5 ?_
      refine V.aload_n (i := 2) dX10_lift_6 rfl rfl ?_
      refine V.ifnonnull (tgt := 16) dX10_lift_7 rfl ?_
      refine V.aload_n (i := 2) dX10_lift_16 rfl rfl ?_
      refine V.cv0D (ci := 5) dX10_lift_17 lk_X10_137 (by decide) rfl (hR.H.at i hi).2 (k_isBanned hR hI i hi ⟨rfl, rfl⟩) (by decide) (by decide) (Nat.le_of_ble_eq_true rfl) (Nat.le_of_ble_eq_true rfl) (Nat.le_of_ble_eq_true rfl) ?_
      refine V.ifb_eq (tgt := 49) dX10_lift_20 rfl (fun c20 => ?_) (fun c20 => ?_)
      · refine V.aload_n (i := 0) dX10_lift_49 rfl rfl ?_
        refine V.iconst dX10_lift_50 ic_3 ?_
        refine V.cv1D (ci := 10) dX10_lift_51 lk_X10_82 (by decide) rfl hR.F.x (k_finding hR _ (by decide) ⟨rfl, rfl⟩) (by decide) (by decide) (Nat.le_of_ble_eq_true rfl) (Nat.le_of_ble_eq_true rfl) (Nat.le_of_ble_eq_true rfl) ?_
        refine V.iret dX10_lift_54 (Nat.le_of_ble_eq_true rfl) (Nat.le_of_ble_eq_true rfl) ?_
        exact puF hp (hz.trans (if_pos (by first | exact Or.inl (Classical.not_not.mp c20) | exact Or.inr (Or.inl (by rw [ho]; exact Option.some_ne_none _)) | exact Or.inr (Or.inr (Int32.not_le.mp c46))))) hR rfl
      · refine V.aload_n (i := 2) dX10_lift_23 rfl rfl ?_
        refine V.getN dX10_lift_24 fl_X10_133 rfl (hR.H.at i hi).2 hb ?_
        refine V.ifnonnullN dX10_lift_27 ?_
        refine V.aload_n (i := 0) dX10_lift_30 rfl rfl ?_
        refine V.geti dX10_lift_31 fl_X10_79 rfl hR.F.x ?_
        refine V.as _ hR.S.day ?_
        refine V.aload_n (i := 2) dX10_lift_34 rfl rfl ?_
        refine V.geti dX10_lift_35 fl_X10_300 rfl (hR.H.at i hi).2 ?_
        refine V.as _ ((hR.H.since i hi).trans (if_neg c20)) ?_
        refine V.isub dX10_lift_38 ?_
        refine V.bipush dX10_lift_39 bc_90 ?_
        refine V.aload_n (i := 2) dX10_lift_41 rfl rfl ?_
        refine V.geti dX10_lift_42 fl_X10_297 rfl (hR.H.at i hi).2 ?_
        refine V.as _ (hR.H.bans i hi) ?_
        refine V.imul dX10_lift_45 ?_
        refine V.icmp_ge (tgt := 55) dX10_lift_46 rfl (fun c46 => ?_) (fun c46 => ?_)
        · refine V.aload_n (i := 2) dX10_lift_55 rfl rfl ?_
          refine V.iconst dX10_lift_56 ic_m1 ?_
          refine V.puti dX10_lift_57 fl_X10_300 rfl rfl (hR.H.at i hi).2 ?_
          refine V.iconst dX10_lift_60 ic_1 ?_
          refine V.iret dX10_lift_61 (Nat.le_of_ble_eq_true rfl) (Nat.le_of_ble_eq_true rfl) ?_
          refine pu (P := P) hp (hz.trans (if_neg (by rintro (z | z | z); exact c20 z; exact z ho; exact absurd z (Int32.not_lt.mpr c46)))) ?_ rfl
          have f : frk (fun t k => !(decide (t = 6) && decide (k = 8))) (fun _ _ => true) σ (wI σ 6 (P 1 i) 8 (-1)) := frk.wI rfl
          have hsn : SH_since (wI σ 6 (P 1 i) 8 (-1)) P (u2 G 36 i (nI 0)) := by
            intro j hj
            replace hj : j < nSh G := hj
            rw [sI_wI, u2_at]
            by_cases q : j = i
            · rw [if_pos ⟨rfl, by rw [q], rfl⟩, if_pos q, if_pos (show nI 0 = 0 from rfl)]
            · rw [if_neg (fun z => q (P1_inj hR hI hj hi z.2.1)), if_neg q]; exact hR.H.since j hj
          have hH : SH (wI σ 6 (P 1 i) 8 (-1)) P (u2 G 36 i (nI 0)) := ⟨(SH_at.k (P := P) (G := G) hR.H hR.F f (fun _ => rfl) rfl), (SH_no.k (P := P) (G := G) hR.H hR.F f rfl rfl), (SH_kind.k (P := P) (G := G) hR.H hR.F f rfl rfl rfl), (SH_soc.k (P := P) (G := G) hR.H hR.F f rfl rfl rfl), (SH_built.k (P := P) (G := G) hR.H hR.F f rfl rfl rfl), (SH_lat.k (P := P) (G := G) hR.H hR.F f rfl rfl), (SH_week.k (P := P) (G := G) hR.H hR.F f rfl rfl), (SH_days.k (P := P) (G := G) hR.H hR.F f rfl rfl), (SH_rest.k (P := P) (G := G) hR.H hR.F f (fun _ => rfl) rfl rfl), (SH_berth.k (P := P) (G := G) hR.H hR.F f rfl rfl rfl rfl rfl), (SH_last.k (P := P) (G := G) hR.H hR.F f rfl rfl rfl rfl rfl rfl), hsn, (SH_bans.k (P := P) (G := G) hR.H hR.F f rfl rfl rfl), (SH_chain.k (P := P) (G := G) hR.H hR.F f (fun _ => rfl) rfl rfl rfl rfl rfl rfl rfl rfl rfl)⟩
          exact ⟨(hR.F.k f (fun _ => rfl) rfl rfl (fun _ => rfl)), ⟨((f.num 1 hR.F.x (by decide) rfl).trans hR.S.shipN), ((f.num 2 hR.F.x (by decide) rfl).trans hR.S.chN), ((f.num 5 hR.F.x (by decide) rfl).trans hR.S.caN), ((f.num 7 hR.F.x (by decide) rfl).trans hR.S.lkN), ((f.num 9 hR.F.x (by decide) rfl).trans hR.S.trN), ((f.num 11 hR.F.x (by decide) rfl).trans hR.S.day), ((f.num 12 hR.F.x (by decide) rfl).trans hR.S.mon), ((f.num 13 hR.F.x (by decide) rfl).trans hR.S.drN), ((f.num 15 hR.F.x (by decide) rfl).trans hR.S.wtN), ((f.num 1 hR.F.owners.2 (by decide) rfl).trans hR.S.wdN), ((f.num 1 hR.F.tape.2 (by decide) rfl).trans hR.S.tpN), (fun j hj => (f.num j hR.F.bytes.2 (by decide) rfl).trans (hR.S.tp j hj)), (fun j hj => (f.num j hR.F.wait.2 (by decide) rfl).trans (hR.S.wt j hj)), (fun j hj => (f.num j hR.F.fnds.2 (by decide) rfl).trans (hR.S.fd j hj))⟩, (hR.O.k hR.F f (fun _ => rfl) rfl rfl rfl), hH, ⟨(CA_at.k (P := P) (G := G) hR.C hR.F f (fun _ => rfl) rfl), (CA_no.k (P := P) (G := G) hR.C hR.F f rfl rfl), (CA_ship.k (P := P) (G := G) hR.C hR.F f rfl rfl rfl), (CA_port.k (P := P) (G := G) hR.C hR.F f rfl rfl rfl), (CA_from_.k (P := P) (G := G) hR.C hR.F f rfl rfl rfl), (CA_over.k (P := P) (G := G) hR.C hR.F f rfl rfl rfl), (CA_held.k (P := P) (G := G) hR.C hR.F f rfl rfl rfl), (CA_lks.k (P := P) (G := G) hR.C hR.F f rfl rfl rfl rfl)⟩, ⟨(LO_at.k (P := P) (G := G) hR.L hR.F f (fun _ => rfl) rfl), (LO_call.k (P := P) (G := G) hR.L hR.F f rfl rfl rfl), (LO_by_.k (P := P) (G := G) hR.L hR.F f rfl rfl rfl), (LO_on_.k (P := P) (G := G) hR.L hR.F f rfl rfl rfl), (LO_flt.k (P := P) (G := G) hR.L hR.F f rfl rfl rfl), (LO_hold.k (P := P) (G := G) hR.L hR.F f rfl rfl rfl), (LO_chance.k (P := P) (G := G) hR.L hR.F f rfl rfl rfl)⟩, ⟨(TR_at.k (P := P) (G := G) hR.T hR.F f (fun _ => rfl) rfl), (TR_from_.k (P := P) (G := G) hR.T hR.F f rfl rfl rfl), (TR_wts.k (P := P) (G := G) hR.T hR.F f rfl rfl), (TR_grv.k (P := P) (G := G) hR.T hR.F f rfl rfl), (TR_lim.k (P := P) (G := G) hR.T hR.F f rfl rfl rfl), (TR_wt.k (P := P) (G := G) hR.T hR.F f (fun _ => rfl) rfl rfl), (TR_gr.k (P := P) (G := G) hR.T hR.F f (fun _ => rfl) rfl rfl)⟩, (hR.J.e rfl rfl)⟩
        · refine V.aload_n (i := 0) dX10_lift_49 rfl rfl ?_
          refine V.iconst dX10_lift_50 ic_3 ?_
          refine V.cv1D (ci := 10) dX10_lift_51 lk_X10_82 (by decide) rfl hR.F.x (k_finding hR _ (by decide) ⟨rfl, rfl⟩) (by decide) (by decide) (Nat.le_of_ble_eq_true rfl) (Nat.le_of_ble_eq_true rfl) (Nat.le_of_ble_eq_true rfl) ?_
          refine V.iret dX10_lift_54 (Nat.le_of_ble_eq_true rfl) (Nat.le_of_ble_eq_true rfl) ?_
          exact puF hp (hz.trans (if_pos (by first | exact Or.inl (Classical.not_not.mp c20) | exact Or.inr (Or.inl (by rw [ho]; exact Option.some_ne_none _)) | exact Or.inr (Or.inr (Int32.not_le.mp c46))))) hR rfl
  · skip
    refine V.aload_n (i := 0) dX10_lift_0 rfl rfl ?_
    refine V.iload_n (i := 1) dX10_lift_1 rfl rfl ?_
    refine V.cv1D (ci := 10) dX10_lift_2 lk_X10_92 (by decide) rfl hR.F.x (k_shipAtN hR hI s hs ⟨rfl, rfl⟩) (by decide) (by decide) (Nat.le_of_ble_eq_true rfl) (Nat.le_of_ble_eq_true rfl) (Nat.le_of_ble_eq_true rfl) ?_
    refine V.astore_n2N (by decide) dX10_lift_5 ?_
    refine V.aload_nN (i := 2) dX10_lift_6 rfl rfl ?_
    refine V.ifnonnullN dX10_lift_7 ?_
    refine V.aload_n (i := 0) dX10_lift_10 rfl rfl ?_
    refine V.iconst dX10_lift_11 ic_1 ?_
    refine V.cv1D (ci := 10) dX10_lift_12 lk_X10_82 (by decide) rfl hR.F.x (k_finding hR _ (by decide) ⟨rfl, rfl⟩) (by decide) (by decide) (Nat.le_of_ble_eq_true rfl) (Nat.le_of_ble_eq_true rfl) (Nat.le_of_ble_eq_true rfl) ?_
    refine V.iret dX10_lift_15 (Nat.le_of_ble_eq_true rfl) (Nat.le_of_ble_eq_true rfl) ?_
    exact puF hp (if_neg hs) hR rfl
set_option maxRecDepth 100000 in
theorem k_leave (hR : Rp σ x P G) (hI : Inv G) (c : Int32) (hp : PU x σ (s_leave G c) post) : MX10_leave E 3 0 0 [.ref x, .int c] σ post := by
  refine MA.of RX10 "leave" [some (.ref x), some (.int c), none] rfl rfl rfl (catAll rfl) (Nat.le_of_ble_eq_true rfl) rfl (fun X => ?_)
  have h50 := hI.caN.2
  have h16 := hI.shN.2
  by_cases hs : 0 ≤ c.toInt ∧ c.toInt < nCa G
  · obtain ⟨i, hi, rfl⟩ := idxOf hs
    have hz : s_leave G (nI i) = (if 0 ≤ (G 17 i).toInt ∨ G 18 i ≠ 0 then fnd G 3 else (nI 1, u2 G 17 i (G 0 0))) := by unfold s_leave; rw [tn_nI (by omega), if_pos (by omega)]
    have hca := hI.ca i hi
    have hd := hI.day
    refine V.aload_n (i := 0) dX10_leave_0 rfl rfl ?_
    refine V.iload_n (i := 1) dX10_leave_1 rfl rfl ?_
    refine V.cv1D (ci := 10) dX10_leave_2 lk_X10_150 (by decide) rfl hR.F.x (k_callAtY hR hI i hi ⟨rfl, rfl⟩) (by decide) (by decide) (Nat.le_of_ble_eq_true rfl) (Nat.le_of_ble_eq_true rfl) (Nat.le_of_ble_eq_true rfl) ?_
    refine V.astore_n2 (by decide) dX10_leave_5 ?_
    refine V.aload_n (i := 2) dX10_leave_6 rfl rfl ?_
    refine V.ifnonnull (tgt := 16) dX10_leave_7 rfl ?_
    refine V.aload_n (i := 2) dX10_leave_16 rfl rfl ?_
    refine V.cv0D (ci := 1) dX10_leave_17 lk_X10_154 (by decide) rfl (hR.C.at i hi).2 (k_isOver hR i hi ⟨rfl, rfl⟩) (by decide) (by decide) (Nat.le_of_ble_eq_true rfl) (Nat.le_of_ble_eq_true rfl) (Nat.le_of_ble_eq_true rfl) ?_
    refine V.ifb_ne (tgt := 30) dX10_leave_20 rfl (fun c20 => ?_) (fun c20 => ?_)
    · refine V.aload_n (i := 0) dX10_leave_30 rfl rfl ?_
      refine V.iconst dX10_leave_31 ic_3 ?_
      refine V.cv1D (ci := 10) dX10_leave_32 lk_X10_82 (by decide) rfl hR.F.x (k_finding hR _ (by decide) ⟨rfl, rfl⟩) (by decide) (by decide) (Nat.le_of_ble_eq_true rfl) (Nat.le_of_ble_eq_true rfl) (Nat.le_of_ble_eq_true rfl) ?_
      refine V.iret dX10_leave_35 (Nat.le_of_ble_eq_true rfl) (Nat.le_of_ble_eq_true rfl) ?_
      exact puF hp (hz.trans (if_pos (by first | exact Or.inl c20 | exact Or.inr c27))) hR rfl
    · refine V.aload_n (i := 2) dX10_leave_23 rfl rfl ?_
      refine V.geti dX10_leave_24 fl_X10_157 rfl (hR.C.at i hi).2 ?_
      refine V.as _ (hR.C.held i hi) ?_
      refine V.if_eq (tgt := 36) dX10_leave_27 rfl (fun c27 => ?_) (fun c27 => ?_)
      · refine V.aload_n (i := 2) dX10_leave_36 rfl rfl ?_
        refine V.aload_n (i := 0) dX10_leave_37 rfl rfl ?_
        refine V.geti dX10_leave_38 fl_X10_79 rfl hR.F.x ?_
        refine V.as _ hR.S.day ?_
        refine V.puti dX10_leave_41 fl_X10_161 rfl rfl (hR.C.at i hi).2 ?_
        refine V.aload_n (i := 2) dX10_leave_44 rfl rfl ?_
        refine V.getS dX10_leave_45 fl_X10_164 rfl (hR.C.at i hi).2 (hR.C.ship i hi) ?_
        refine V.null dX10_leave_48 ?_
        refine V.putN dX10_leave_49 fl_X10_133 rfl rfl (hR.H.at _ hca.2).2 ?_
        refine V.iconst dX10_leave_52 ic_1 ?_
        refine V.iret dX10_leave_53 (Nat.le_of_ble_eq_true rfl) (Nat.le_of_ble_eq_true rfl) ?_
        refine pu (P := P) hp (hz.trans (if_neg (by rintro (z | z); exact c20 z; exact z c27))) ?_ rfl
        have f : frk (fun t k => !(decide (t = 2) && decide (k = 4))) (fun t k => !(decide (t = 6) && decide (k = 6))) σ (wR (wI σ 2 (P 5 i) 4 (G 0 0)) 6 (P 1 (gN G 14 i)) 6 none) := (frk.wI rfl).trans (frk.wR rfl)
        have hov : CA_over (wR (wI σ 2 (P 5 i) 4 (G 0 0)) 6 (P 1 (gN G 14 i)) 6 none) P (u2 G 17 i (G 0 0)) := by
          intro j hj
          replace hj : j < nCa G := hj
          rw [sI_wR, sI_wI, u2_at]
          by_cases q : j = i
          · rw [if_pos ⟨rfl, by rw [q], rfl⟩, if_pos q]
          · rw [if_neg (fun z => q (P5_inj hR hI hj hi z.2.1)), if_neg q]; exact hR.C.over j hj
        have hbe : SH_berth (wR (wI σ 2 (P 5 i) 4 (G 0 0)) 6 (P 1 (gN G 14 i)) 6 none) P (u2 G 17 i (G 0 0)) := by
          intro j hj
          replace hj : j < nSh G := hj
          rw [sR_wR]
          by_cases q : j = gN G 14 i
          · rw [if_pos ⟨rfl, by rw [q], rfl⟩, show openOf (u2 G 17 i (G 0 0)) (nI j) = none from openK_no _ (fun c hc z => ?_)]
            · rfl
            replace hc : c < nCa G := hc
            have z1 : G 14 c = nI j := z.1
            have z2 := z.2
            rw [u2_at] at z2
            by_cases qc : c = i
            · rw [if_pos qc] at z2; omega
            · rw [if_neg qc] at z2
              exact qc (hI.one c i hc hi (by rw [z1, hca.1, q]) z2 (by omega))
          · rw [if_neg (fun z => q (P1_inj hR hI hj hca.2 z.2.1)), show openOf (u2 G 17 i (G 0 0)) (nI j) = openOf G (nI j) from openK_cg _ (fun c hc => ?_)]
            · exact hR.H.berth j hj
            rw [u2_at]
            by_cases qc : c = i
            · constructor
              · rintro ⟨z, -⟩; exact absurd (show G 14 c = nI j from z) (by rw [qc, hca.1, nI_eq (by omega) (by omega)]; exact fun e => q e.symm)
              · rintro ⟨z, -⟩; exact absurd z (by rw [qc, hca.1, nI_eq (by omega) (by omega)]; exact fun e => q e.symm)
            · rw [if_neg qc]; exact Iff.rfl
        have hC : CA (wR (wI σ 2 (P 5 i) 4 (G 0 0)) 6 (P 1 (gN G 14 i)) 6 none) P (u2 G 17 i (G 0 0)) := ⟨(CA_at.k (P := P) (G := G) hR.C hR.F f (fun _ => rfl) rfl), (CA_no.k (P := P) (G := G) hR.C hR.F f rfl rfl), (CA_ship.k (P := P) (G := G) hR.C hR.F f rfl rfl rfl), (CA_port.k (P := P) (G := G) hR.C hR.F f rfl rfl rfl), (CA_from_.k (P := P) (G := G) hR.C hR.F f rfl rfl rfl), hov, (CA_held.k (P := P) (G := G) hR.C hR.F f rfl rfl rfl), (CA_lks.k (P := P) (G := G) hR.C hR.F f rfl rfl rfl rfl)⟩
        have hH : SH (wR (wI σ 2 (P 5 i) 4 (G 0 0)) 6 (P 1 (gN G 14 i)) 6 none) P (u2 G 17 i (G 0 0)) := ⟨(SH_at.k (P := P) (G := G) hR.H hR.F f (fun _ => rfl) rfl), (SH_no.k (P := P) (G := G) hR.H hR.F f rfl rfl), (SH_kind.k (P := P) (G := G) hR.H hR.F f rfl rfl rfl), (SH_soc.k (P := P) (G := G) hR.H hR.F f rfl rfl rfl), (SH_built.k (P := P) (G := G) hR.H hR.F f rfl rfl rfl), (SH_lat.k (P := P) (G := G) hR.H hR.F f rfl rfl), (SH_week.k (P := P) (G := G) hR.H hR.F f rfl rfl), (SH_days.k (P := P) (G := G) hR.H hR.F f rfl rfl), (SH_rest.k (P := P) (G := G) hR.H hR.F f (fun _ => rfl) rfl rfl), hbe, (SH_last.k (P := P) (G := G) hR.H hR.F f rfl rfl rfl rfl rfl rfl), (SH_since.k (P := P) (G := G) hR.H hR.F f rfl rfl rfl rfl), (SH_bans.k (P := P) (G := G) hR.H hR.F f rfl rfl rfl), (SH_chain.k (P := P) (G := G) hR.H hR.F f (fun _ => rfl) rfl rfl rfl rfl rfl rfl rfl rfl rfl)⟩
        exact ⟨(hR.F.k f (fun _ => rfl) rfl rfl (fun _ => rfl)), ⟨((f.num 1 hR.F.x (by decide) rfl).trans hR.S.shipN), ((f.num 2 hR.F.x (by decide) rfl).trans hR.S.chN), ((f.num 5 hR.F.x (by decide) rfl).trans hR.S.caN), ((f.num 7 hR.F.x (by decide) rfl).trans hR.S.lkN), ((f.num 9 hR.F.x (by decide) rfl).trans hR.S.trN), ((f.num 11 hR.F.x (by decide) rfl).trans hR.S.day), ((f.num 12 hR.F.x (by decide) rfl).trans hR.S.mon), ((f.num 13 hR.F.x (by decide) rfl).trans hR.S.drN), ((f.num 15 hR.F.x (by decide) rfl).trans hR.S.wtN), ((f.num 1 hR.F.owners.2 (by decide) rfl).trans hR.S.wdN), ((f.num 1 hR.F.tape.2 (by decide) rfl).trans hR.S.tpN), (fun j hj => (f.num j hR.F.bytes.2 (by decide) rfl).trans (hR.S.tp j hj)), (fun j hj => (f.num j hR.F.wait.2 (by decide) rfl).trans (hR.S.wt j hj)), (fun j hj => (f.num j hR.F.fnds.2 (by decide) rfl).trans (hR.S.fd j hj))⟩, (hR.O.k hR.F f (fun _ => rfl) rfl rfl rfl), hH, hC, ⟨(LO_at.k (P := P) (G := G) hR.L hR.F f (fun _ => rfl) rfl), (LO_call.k (P := P) (G := G) hR.L hR.F f rfl rfl rfl), (LO_by_.k (P := P) (G := G) hR.L hR.F f rfl rfl rfl), (LO_on_.k (P := P) (G := G) hR.L hR.F f rfl rfl rfl), (LO_flt.k (P := P) (G := G) hR.L hR.F f rfl rfl rfl), (LO_hold.k (P := P) (G := G) hR.L hR.F f rfl rfl rfl), (LO_chance.k (P := P) (G := G) hR.L hR.F f rfl rfl rfl)⟩, ⟨(TR_at.k (P := P) (G := G) hR.T hR.F f (fun _ => rfl) rfl), (TR_from_.k (P := P) (G := G) hR.T hR.F f rfl rfl rfl), (TR_wts.k (P := P) (G := G) hR.T hR.F f rfl rfl), (TR_grv.k (P := P) (G := G) hR.T hR.F f rfl rfl), (TR_lim.k (P := P) (G := G) hR.T hR.F f rfl rfl rfl), (TR_wt.k (P := P) (G := G) hR.T hR.F f (fun _ => rfl) rfl rfl), (TR_gr.k (P := P) (G := G) hR.T hR.F f (fun _ => rfl) rfl rfl)⟩, (hR.J.e rfl rfl)⟩
      · refine V.aload_n (i := 0) dX10_leave_30 rfl rfl ?_
        refine V.iconst dX10_leave_31 ic_3 ?_
        refine V.cv1D (ci := 10) dX10_leave_32 lk_X10_82 (by decide) rfl hR.F.x (k_finding hR _ (by decide) ⟨rfl, rfl⟩) (by decide) (by decide) (Nat.le_of_ble_eq_true rfl) (Nat.le_of_ble_eq_true rfl) (Nat.le_of_ble_eq_true rfl) ?_
        refine V.iret dX10_leave_35 (Nat.le_of_ble_eq_true rfl) (Nat.le_of_ble_eq_true rfl) ?_
        exact puF hp (hz.trans (if_pos (by first | exact Or.inl c20 | exact Or.inr c27))) hR rfl
  · skip
    refine V.aload_n (i := 0) dX10_leave_0 rfl rfl ?_
    refine V.iload_n (i := 1) dX10_leave_1 rfl rfl ?_
    refine V.cv1D (ci := 10) dX10_leave_2 lk_X10_150 (by decide) rfl hR.F.x (k_callAtN hR hI c hs ⟨rfl, rfl⟩) (by decide) (by decide) (Nat.le_of_ble_eq_true rfl) (Nat.le_of_ble_eq_true rfl) (Nat.le_of_ble_eq_true rfl) ?_
    refine V.astore_n2N (by decide) dX10_leave_5 ?_
    refine V.aload_nN (i := 2) dX10_leave_6 rfl rfl ?_
    refine V.ifnonnullN dX10_leave_7 ?_
    refine V.aload_n (i := 0) dX10_leave_10 rfl rfl ?_
    refine V.iconst dX10_leave_11 ic_1 ?_
    refine V.cv1D (ci := 10) dX10_leave_12 lk_X10_82 (by decide) rfl hR.F.x (k_finding hR _ (by decide) ⟨rfl, rfl⟩) (by decide) (by decide) (Nat.le_of_ble_eq_true rfl) (Nat.le_of_ble_eq_true rfl) (Nat.le_of_ble_eq_true rfl) ?_
    refine V.iret dX10_leave_15 (Nat.le_of_ble_eq_true rfl) (Nat.le_of_ble_eq_true rfl) ?_
    exact puF hp (if_neg hs) hR rfl
set_option maxRecDepth 100000 in
theorem k_draw (hR : Rp σ x P G) (hI : Inv G) (l b : Int32) (hp : PU x σ (s_draw G l b) post) : MX10_draw E 3 0 0 [.ref x, .int l, .int b] σ post := by
  refine MA.of RX10 "draw" [some (.ref x), some (.int l), some (.int b), none] rfl rfl rfl (catAll rfl) (Nat.le_of_ble_eq_true rfl) rfl (fun X => ?_)
  have h60 := hI.lkN.2
  by_cases hs : 0 ≤ l.toInt ∧ l.toInt < nLk G
  · obtain ⟨i, hi, rfl⟩ := idxOf hs
    have hz : 1 ≤ b.toInt ∧ b.toInt ≤ 100 → s_draw G (nI i) b = (if 0 < (G 32 i).toInt then fnd G 3 else (G 33 0 + nI 1, u2 (u2 G 32 i b) 33 0 (G 33 0 + nI 1))) := fun h => by unfold s_draw; rw [tn_nI (by omega), if_pos (by omega)]
    refine V.aload_n (i := 0) dX10_draw_0 rfl rfl ?_
    refine V.iload_n (i := 1) dX10_draw_1 rfl rfl ?_
    refine V.cv1D (ci := 10) dX10_draw_2 lk_X10_226 (by decide) rfl hR.F.x (k_lookAtY hR hI i hi ⟨rfl, rfl⟩) (by decide) (by decide) (Nat.le_of_ble_eq_true rfl) (Nat.le_of_ble_eq_true rfl) (Nat.le_of_ble_eq_true rfl) ?_
    refine V.astore_n3 (by decide) dX10_draw_5 ?_
    refine V.aload_n (i := 3) dX10_draw_6 rfl rfl ?_
    refine V.ifnull dX10_draw_7 ?_
    refine V.iload_n (i := 2) dX10_draw_10 rfl rfl ?_
    refine V.iconst dX10_draw_11 ic_1 ?_
    refine V.icmp_lt (tgt := 21) dX10_draw_12 rfl (fun c12 => ?_) (fun c12 => ?_)
    · rw [fa_lt, toI _ (by decide)] at c12
      refine V.aload_n (i := 0) dX10_draw_21 rfl rfl ?_
      refine V.iconst dX10_draw_22 ic_1 ?_
      refine V.cv1D (ci := 10) dX10_draw_23 lk_X10_82 (by decide) rfl hR.F.x (k_finding hR _ (by decide) ⟨rfl, rfl⟩) (by decide) (by decide) (Nat.le_of_ble_eq_true rfl) (Nat.le_of_ble_eq_true rfl) (Nat.le_of_ble_eq_true rfl) ?_
      refine V.iret dX10_draw_26 (Nat.le_of_ble_eq_true rfl) (Nat.le_of_ble_eq_true rfl) ?_
      exact puF hp (if_neg (by omega)) hR rfl
    · rw [fa_lt, toI _ (by decide)] at c12
      refine V.iload_n (i := 2) dX10_draw_15 rfl rfl ?_
      refine V.bipush dX10_draw_16 bc_100 ?_
      refine V.icmp_le (tgt := 27) dX10_draw_18 rfl (fun c18 => ?_) (fun c18 => ?_)
      · rw [fa_le, toI _ (by decide)] at c18
        refine V.aload_n (i := 3) dX10_draw_27 rfl rfl ?_
        refine V.cv0D (ci := 2) dX10_draw_28 lk_X10_312 (by decide) rfl (hR.L.at i hi).2 (k_isDrawn hR i hi ⟨rfl, rfl⟩) (by decide) (by decide) (Nat.le_of_ble_eq_true rfl) (Nat.le_of_ble_eq_true rfl) (Nat.le_of_ble_eq_true rfl) ?_
        refine V.ifb_eq (tgt := 40) dX10_draw_31 rfl (fun c31 => ?_) (fun c31 => ?_)
        · refine V.aload_n (i := 3) dX10_draw_40 rfl rfl ?_
          refine V.iload_n (i := 2) dX10_draw_41 rfl rfl ?_
          refine V.puti dX10_draw_42 fl_X10_315 rfl rfl (hR.L.at i hi).2 ?_
          refine V.aload_n (i := 0) dX10_draw_45 rfl rfl ?_
          refine V.dup dX10_draw_46 rfl ?_
          refine V.geti dX10_draw_47 fl_X10_318 rfl hR.F.x ?_
          refine V.as (G 33 0) (by rw [sI_wI, if_neg (by simp)]; exact hR.S.drN) ?_
          refine V.iconst dX10_draw_50 ic_1 ?_
          refine V.iadd dX10_draw_51 ?_
          refine V.puti dX10_draw_52 fl_X10_318 rfl rfl hR.F.x ?_
          refine V.aload_n (i := 0) dX10_draw_55 rfl rfl ?_
          refine V.geti dX10_draw_56 fl_X10_318 rfl hR.F.x ?_
          refine V.as (G 33 0 + nI 1) (by rw [sI_wI, if_pos ⟨rfl, rfl, rfl⟩]) ?_
          refine V.iret dX10_draw_59 (Nat.le_of_ble_eq_true rfl) (Nat.le_of_ble_eq_true rfl) ?_
          refine pu (P := P) hp ((hz (by omega)).trans (if_neg c31)) ?_ rfl
          have f : frk (fun t k => !(decide (t = 3) && decide (k = 5)) && !(decide (t = 11) && decide (k = 13))) (fun _ _ => true) σ (wI (wI σ 3 (P 6 i) 5 b) 11 x 13 (G 33 0 + nI 1)) := (frk.wI rfl).trans (frk.wI rfl)
          have hch : LO_chance (wI (wI σ 3 (P 6 i) 5 b) 11 x 13 (G 33 0 + nI 1)) P (u2 (u2 G 32 i b) 33 0 (G 33 0 + nI 1)) := by
            intro j hj
            replace hj : j < nLk G := hj
            rw [sI_wI, if_neg (by simp), sI_wI]
            show _ = u2 G 32 i b 32 j
            rw [u2_at]
            by_cases q : j = i
            · rw [if_pos ⟨rfl, by rw [q], rfl⟩, if_pos q]
            · rw [if_neg (fun z => q (hR.J.2.2 j i hj hi z.2.1)), if_neg q]; exact hR.L.chance j hj
          have hL : LO (wI (wI σ 3 (P 6 i) 5 b) 11 x 13 (G 33 0 + nI 1)) P (u2 (u2 G 32 i b) 33 0 (G 33 0 + nI 1)) := ⟨(LO_at.k (P := P) (G := G) hR.L hR.F f (fun _ => rfl) rfl), (LO_call.k (P := P) (G := G) hR.L hR.F f rfl rfl rfl), (LO_by_.k (P := P) (G := G) hR.L hR.F f rfl rfl rfl), (LO_on_.k (P := P) (G := G) hR.L hR.F f rfl rfl rfl), (LO_flt.k (P := P) (G := G) hR.L hR.F f rfl rfl rfl), (LO_hold.k (P := P) (G := G) hR.L hR.F f rfl rfl rfl), hch⟩
          have hS : SC (wI (wI σ 3 (P 6 i) 5 b) 11 x 13 (G 33 0 + nI 1)) x P (u2 (u2 G 32 i b) 33 0 (G 33 0 + nI 1)) := ⟨((f.num 1 hR.F.x (by decide) rfl).trans hR.S.shipN), ((f.num 2 hR.F.x (by decide) rfl).trans hR.S.chN), ((f.num 5 hR.F.x (by decide) rfl).trans hR.S.caN), ((f.num 7 hR.F.x (by decide) rfl).trans hR.S.lkN), ((f.num 9 hR.F.x (by decide) rfl).trans hR.S.trN), ((f.num 11 hR.F.x (by decide) rfl).trans hR.S.day), ((f.num 12 hR.F.x (by decide) rfl).trans hR.S.mon), (by rw [sI_wI, if_pos ⟨rfl, rfl, rfl⟩]; rfl), ((f.num 15 hR.F.x (by decide) rfl).trans hR.S.wtN), ((f.num 1 hR.F.owners.2 (by decide) rfl).trans hR.S.wdN), ((f.num 1 hR.F.tape.2 (by decide) rfl).trans hR.S.tpN), (fun j hj => (f.num j hR.F.bytes.2 (by decide) rfl).trans (hR.S.tp j hj)), (fun j hj => (f.num j hR.F.wait.2 (by decide) rfl).trans (hR.S.wt j hj)), (fun j hj => (f.num j hR.F.fnds.2 (by decide) rfl).trans (hR.S.fd j hj))⟩
          exact ⟨(hR.F.k f (fun _ => rfl) rfl rfl (fun _ => rfl)), hS, (hR.O.k hR.F f (fun _ => rfl) rfl rfl rfl), ⟨(SH_at.k (P := P) (G := G) hR.H hR.F f (fun _ => rfl) rfl), (SH_no.k (P := P) (G := G) hR.H hR.F f rfl rfl), (SH_kind.k (P := P) (G := G) hR.H hR.F f rfl rfl rfl), (SH_soc.k (P := P) (G := G) hR.H hR.F f rfl rfl rfl), (SH_built.k (P := P) (G := G) hR.H hR.F f rfl rfl rfl), (SH_lat.k (P := P) (G := G) hR.H hR.F f rfl rfl), (SH_week.k (P := P) (G := G) hR.H hR.F f rfl rfl), (SH_days.k (P := P) (G := G) hR.H hR.F f rfl rfl), (SH_rest.k (P := P) (G := G) hR.H hR.F f (fun _ => rfl) rfl rfl), (SH_berth.k (P := P) (G := G) hR.H hR.F f rfl rfl rfl rfl rfl), (SH_last.k (P := P) (G := G) hR.H hR.F f rfl rfl rfl rfl rfl rfl), (SH_since.k (P := P) (G := G) hR.H hR.F f rfl rfl rfl rfl), (SH_bans.k (P := P) (G := G) hR.H hR.F f rfl rfl rfl), (SH_chain.k (P := P) (G := G) hR.H hR.F f (fun _ => rfl) rfl rfl rfl rfl rfl rfl rfl rfl rfl)⟩, ⟨(CA_at.k (P := P) (G := G) hR.C hR.F f (fun _ => rfl) rfl), (CA_no.k (P := P) (G := G) hR.C hR.F f rfl rfl), (CA_ship.k (P := P) (G := G) hR.C hR.F f rfl rfl rfl), (CA_port.k (P := P) (G := G) hR.C hR.F f rfl rfl rfl), (CA_from_.k (P := P) (G := G) hR.C hR.F f rfl rfl rfl), (CA_over.k (P := P) (G := G) hR.C hR.F f rfl rfl rfl), (CA_held.k (P := P) (G := G) hR.C hR.F f rfl rfl rfl), (CA_lks.k (P := P) (G := G) hR.C hR.F f rfl rfl rfl rfl)⟩, hL, ⟨(TR_at.k (P := P) (G := G) hR.T hR.F f (fun _ => rfl) rfl), (TR_from_.k (P := P) (G := G) hR.T hR.F f rfl rfl rfl), (TR_wts.k (P := P) (G := G) hR.T hR.F f rfl rfl), (TR_grv.k (P := P) (G := G) hR.T hR.F f rfl rfl), (TR_lim.k (P := P) (G := G) hR.T hR.F f rfl rfl rfl), (TR_wt.k (P := P) (G := G) hR.T hR.F f (fun _ => rfl) rfl rfl), (TR_gr.k (P := P) (G := G) hR.T hR.F f (fun _ => rfl) rfl rfl)⟩, (hR.J.e rfl rfl)⟩
        · refine V.aload_n (i := 0) dX10_draw_34 rfl rfl ?_
          refine V.iconst dX10_draw_35 ic_3 ?_
          refine V.cv1D (ci := 10) dX10_draw_36 lk_X10_82 (by decide) rfl hR.F.x (k_finding hR _ (by decide) ⟨rfl, rfl⟩) (by decide) (by decide) (Nat.le_of_ble_eq_true rfl) (Nat.le_of_ble_eq_true rfl) (Nat.le_of_ble_eq_true rfl) ?_
          refine V.iret dX10_draw_39 (Nat.le_of_ble_eq_true rfl) (Nat.le_of_ble_eq_true rfl) ?_
          exact puF hp ((hz (by omega)).trans (if_pos c31)) hR rfl
      · rw [fa_le, toI _ (by decide)] at c18
        refine V.aload_n (i := 0) dX10_draw_21 rfl rfl ?_
        refine V.iconst dX10_draw_22 ic_1 ?_
        refine V.cv1D (ci := 10) dX10_draw_23 lk_X10_82 (by decide) rfl hR.F.x (k_finding hR _ (by decide) ⟨rfl, rfl⟩) (by decide) (by decide) (Nat.le_of_ble_eq_true rfl) (Nat.le_of_ble_eq_true rfl) (Nat.le_of_ble_eq_true rfl) ?_
        refine V.iret dX10_draw_26 (Nat.le_of_ble_eq_true rfl) (Nat.le_of_ble_eq_true rfl) ?_
        exact puF hp (if_neg (by omega)) hR rfl
  · skip
    refine V.aload_n (i := 0) dX10_draw_0 rfl rfl ?_
    refine V.iload_n (i := 1) dX10_draw_1 rfl rfl ?_
    refine V.cv1D (ci := 10) dX10_draw_2 lk_X10_226 (by decide) rfl hR.F.x (k_lookAtN hR hI l hs ⟨rfl, rfl⟩) (by decide) (by decide) (Nat.le_of_ble_eq_true rfl) (Nat.le_of_ble_eq_true rfl) (Nat.le_of_ble_eq_true rfl) ?_
    refine V.astore_n3N (by decide) dX10_draw_5 ?_
    refine V.aload_nN (i := 3) dX10_draw_6 rfl rfl ?_
    refine V.ifnullN (tgt := 21) dX10_draw_7 rfl ?_
    refine V.aload_n (i := 0) dX10_draw_21 rfl rfl ?_
    refine V.iconst dX10_draw_22 ic_1 ?_
    refine V.cv1D (ci := 10) dX10_draw_23 lk_X10_82 (by decide) rfl hR.F.x (k_finding hR _ (by decide) ⟨rfl, rfl⟩) (by decide) (by decide) (Nat.le_of_ble_eq_true rfl) (Nat.le_of_ble_eq_true rfl) (Nat.le_of_ble_eq_true rfl) ?_
    refine V.iret dX10_draw_26 (Nat.le_of_ble_eq_true rfl) (Nat.le_of_ble_eq_true rfl) ?_
    exact puF hp (if_neg (by omega)) hR rfl
end CLS8

