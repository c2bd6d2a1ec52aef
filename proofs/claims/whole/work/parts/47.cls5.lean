/-! ===== the class: what was called, looked at, counted ===== -/
theorem fb_ctT {p : Nat → Bool} {k : Nat} (h : p k = true) : nI (fb_ct p k) + nI 1 = nI (fb_ct p (k + 1)) := by rw [fb_ct_succ, h, nI_add]; rfl
theorem fb_ctF {p : Nat → Bool} {k : Nat} (h : ¬ p k = true) : nI (fb_ct p k) + nI 0 = nI (fb_ct p (k + 1)) := by rw [fb_ct_succ, if_neg h, nI_add]
theorem fb_ctT1 {p : Nat → Bool} {k : Nat} (h : p k = true) : fb_ct p k + 1 = fb_ct p (k + 1) := by rw [fb_ct_succ, h]; rfl
theorem fb_ctF1 {p : Nat → Bool} {k : Nat} (h : ¬ p k = true) : fb_ct p k = fb_ct p (k + 1) := by rw [fb_ct_succ, if_neg h]; rfl
section CLS5
variable {E : VE} {σ : Sg} {G : GS} {x : Nat} {P : PT} {post : Option Value → Sg → Prop}
set_option maxRecDepth 100000 in
theorem k_of (hR : Rp σ x P G) (hI : Inv G) (c w : Int32) (hp : PU x σ (s_of G c w) post) : MX10_of E 3 0 0 [.ref x, .int c, .int w] σ post := by
  refine MA.of RX10 "of" [some (.ref x), some (.int c), some (.int w), none] rfl rfl rfl (catAll rfl) (Nat.le_of_ble_eq_true rfl) rfl (fun X => ?_)
  have h50 := hI.caN.2
  by_cases hc : 0 ≤ c.toInt ∧ c.toInt < nCa G
  · obtain ⟨i, hi, rfl⟩ := idxOf hc
    by_cases hw : 0 ≤ w.toInt ∧ w.toInt < ((6 : Nat) : Int)
    · obtain ⟨j, hj, rfl⟩ := idxOf hw
      have hR0 : s_of G (nI i) (nI j) = (if j = 0 then G 14 i else if j = 1 then G 15 i else if j = 2 then G 16 i else if j = 3 then G 17 i else if j = 4 then b2 (¬ G 18 i = 0) else nI (looksAt G i), G) := by unfold s_of; rw [tn_nI (by omega), tn_nI (by omega), if_pos (by omega)]
      rw [hR0] at hp
      have hca := hI.ca i hi
      rcases (show j = 0 ∨ j = 1 ∨ j = 2 ∨ j = 3 ∨ j = 4 ∨ j = 5 by omega) with rfl | rfl | rfl | rfl | rfl | rfl
      · skip
        refine V.aload_n (i := 0) dX10_of_0 rfl rfl ?_
        refine V.iload_n (i := 1) dX10_of_1 rfl rfl ?_
        refine V.cv1D (ci := 10) dX10_of_2 lk_X10_150 (by decide) rfl hR.F.x (k_callAtY hR hI i hi ⟨rfl, rfl⟩) (by decide) (by decide) (Nat.le_of_ble_eq_true rfl) (Nat.le_of_ble_eq_true rfl) (Nat.le_of_ble_eq_true rfl) ?_
        refine V.astore_n3 (by decide) dX10_of_5 ?_
        refine V.aload_n (i := 3) dX10_of_6 rfl rfl ?_
        refine V.ifnonnull (tgt := 16) dX10_of_7 rfl ?_
        refine V.iload_n (i := 2) dX10_of_16 rfl rfl ?_
        refine V.tableIn (tgt := 56) (off := 39) dX10_of_17 (by decide) (by decide) rfl rfl ?_
        refine V.aload_n (i := 3) dX10_of_56 rfl rfl ?_
        refine V.getS dX10_of_57 fl_X10_164 rfl (hR.C.at i hi).2 (hR.C.ship i hi) ?_
        refine V.geti dX10_of_60 fl_X10_168 rfl (hR.H.at _ hca.2).2 ?_
        refine V.as _ ((hR.H.no _ hca.2).trans hca.1.symm) ?_
        refine V.iret dX10_of_63 (Nat.le_of_ble_eq_true rfl) (Nat.le_of_ble_eq_true rfl) ?_
        exact pu hp rfl hR rfl
      · skip
        refine V.aload_n (i := 0) dX10_of_0 rfl rfl ?_
        refine V.iload_n (i := 1) dX10_of_1 rfl rfl ?_
        refine V.cv1D (ci := 10) dX10_of_2 lk_X10_150 (by decide) rfl hR.F.x (k_callAtY hR hI i hi ⟨rfl, rfl⟩) (by decide) (by decide) (Nat.le_of_ble_eq_true rfl) (Nat.le_of_ble_eq_true rfl) (Nat.le_of_ble_eq_true rfl) ?_
        refine V.astore_n3 (by decide) dX10_of_5 ?_
        refine V.aload_n (i := 3) dX10_of_6 rfl rfl ?_
        refine V.ifnonnull (tgt := 16) dX10_of_7 rfl ?_
        refine V.iload_n (i := 2) dX10_of_16 rfl rfl ?_
        refine V.tableIn (tgt := 64) (off := 47) dX10_of_17 (by decide) (by decide) rfl rfl ?_
        refine V.aload_n (i := 3) dX10_of_64 rfl rfl ?_
        refine V.geti dX10_of_65 fl_X10_169 rfl (hR.C.at i hi).2 ?_
        refine V.as _ (hR.C.port i hi) ?_
        refine V.iret dX10_of_68 (Nat.le_of_ble_eq_true rfl) (Nat.le_of_ble_eq_true rfl) ?_
        exact pu hp rfl hR rfl
      · skip
        refine V.aload_n (i := 0) dX10_of_0 rfl rfl ?_
        refine V.iload_n (i := 1) dX10_of_1 rfl rfl ?_
        refine V.cv1D (ci := 10) dX10_of_2 lk_X10_150 (by decide) rfl hR.F.x (k_callAtY hR hI i hi ⟨rfl, rfl⟩) (by decide) (by decide) (Nat.le_of_ble_eq_true rfl) (Nat.le_of_ble_eq_true rfl) (Nat.le_of_ble_eq_true rfl) ?_
        refine V.astore_n3 (by decide) dX10_of_5 ?_
        refine V.aload_n (i := 3) dX10_of_6 rfl rfl ?_
        refine V.ifnonnull (tgt := 16) dX10_of_7 rfl ?_
        refine V.iload_n (i := 2) dX10_of_16 rfl rfl ?_
        refine V.tableIn (tgt := 69) (off := 52) dX10_of_17 (by decide) (by decide) rfl rfl ?_
        refine V.aload_n (i := 3) dX10_of_69 rfl rfl ?_
        refine V.geti dX10_of_70 fl_X10_172 rfl (hR.C.at i hi).2 ?_
        refine V.as _ (hR.C.from_ i hi) ?_
        refine V.iret dX10_of_73 (Nat.le_of_ble_eq_true rfl) (Nat.le_of_ble_eq_true rfl) ?_
        exact pu hp rfl hR rfl
      · skip
        refine V.aload_n (i := 0) dX10_of_0 rfl rfl ?_
        refine V.iload_n (i := 1) dX10_of_1 rfl rfl ?_
        refine V.cv1D (ci := 10) dX10_of_2 lk_X10_150 (by decide) rfl hR.F.x (k_callAtY hR hI i hi ⟨rfl, rfl⟩) (by decide) (by decide) (Nat.le_of_ble_eq_true rfl) (Nat.le_of_ble_eq_true rfl) (Nat.le_of_ble_eq_true rfl) ?_
        refine V.astore_n3 (by decide) dX10_of_5 ?_
        refine V.aload_n (i := 3) dX10_of_6 rfl rfl ?_
        refine V.ifnonnull (tgt := 16) dX10_of_7 rfl ?_
        refine V.iload_n (i := 2) dX10_of_16 rfl rfl ?_
        refine V.tableIn (tgt := 74) (off := 57) dX10_of_17 (by decide) (by decide) rfl rfl ?_
        refine V.aload_n (i := 3) dX10_of_74 rfl rfl ?_
        refine V.geti dX10_of_75 fl_X10_161 rfl (hR.C.at i hi).2 ?_
        refine V.as _ (hR.C.over i hi) ?_
        refine V.iret dX10_of_78 (Nat.le_of_ble_eq_true rfl) (Nat.le_of_ble_eq_true rfl) ?_
        exact pu hp rfl hR rfl
      · skip
        refine V.aload_n (i := 0) dX10_of_0 rfl rfl ?_
        refine V.iload_n (i := 1) dX10_of_1 rfl rfl ?_
        refine V.cv1D (ci := 10) dX10_of_2 lk_X10_150 (by decide) rfl hR.F.x (k_callAtY hR hI i hi ⟨rfl, rfl⟩) (by decide) (by decide) (Nat.le_of_ble_eq_true rfl) (Nat.le_of_ble_eq_true rfl) (Nat.le_of_ble_eq_true rfl) ?_
        refine V.astore_n3 (by decide) dX10_of_5 ?_
        refine V.aload_n (i := 3) dX10_of_6 rfl rfl ?_
        refine V.ifnonnull (tgt := 16) dX10_of_7 rfl ?_
        refine V.iload_n (i := 2) dX10_of_16 rfl rfl ?_
        refine V.tableIn (tgt := 79) (off := 62) dX10_of_17 (by decide) (by decide) rfl rfl ?_
        refine V.aload_n (i := 3) dX10_of_79 rfl rfl ?_
        refine V.geti dX10_of_80 fl_X10_157 rfl (hR.C.at i hi).2 ?_
        refine V.as _ (hR.C.held i hi) ?_
        refine V.if_eq (tgt := 90) dX10_of_83 rfl (fun c83 => ?_) (fun c83 => ?_)
        · refine V.iconst dX10_of_90 ic_0 ?_
          refine V.iret dX10_of_91 (Nat.le_of_ble_eq_true rfl) (Nat.le_of_ble_eq_true rfl) ?_
          first | exact pv hp rfl (b2T (p := ¬ G 18 i = 0) c83).symm hR rfl | exact pv hp rfl (b2F (p := ¬ G 18 i = 0) (Classical.not_not.mpr c83)).symm hR rfl
        · refine V.iconst dX10_of_86 ic_1 ?_
          refine V.goto (tgt := 91) dX10_of_87 rfl ?_
          refine V.iret dX10_of_91 (Nat.le_of_ble_eq_true rfl) (Nat.le_of_ble_eq_true rfl) ?_
          first | exact pv hp rfl (b2T (p := ¬ G 18 i = 0) c83).symm hR rfl | exact pv hp rfl (b2F (p := ¬ G 18 i = 0) (Classical.not_not.mpr c83)).symm hR rfl
      · skip
        refine V.aload_n (i := 0) dX10_of_0 rfl rfl ?_
        refine V.iload_n (i := 1) dX10_of_1 rfl rfl ?_
        refine V.cv1D (ci := 10) dX10_of_2 lk_X10_150 (by decide) rfl hR.F.x (k_callAtY hR hI i hi ⟨rfl, rfl⟩) (by decide) (by decide) (Nat.le_of_ble_eq_true rfl) (Nat.le_of_ble_eq_true rfl) (Nat.le_of_ble_eq_true rfl) ?_
        refine V.astore_n3 (by decide) dX10_of_5 ?_
        refine V.aload_n (i := 3) dX10_of_6 rfl rfl ?_
        refine V.ifnonnull (tgt := 16) dX10_of_7 rfl ?_
        refine V.iload_n (i := 2) dX10_of_16 rfl rfl ?_
        refine V.tableIn (tgt := 92) (off := 75) dX10_of_17 (by decide) (by decide) rfl rfl ?_
        refine V.aload_n (i := 3) dX10_of_92 rfl rfl ?_
        refine V.geti dX10_of_93 fl_X10_175 rfl (hR.C.at i hi).2 ?_
        refine V.as _ (hR.C.lks i hi) ?_
        refine V.iret dX10_of_96 (Nat.le_of_ble_eq_true rfl) (Nat.le_of_ble_eq_true rfl) ?_
        exact pu hp rfl hR rfl
    · skip
      refine V.aload_n (i := 0) dX10_of_0 rfl rfl ?_
      refine V.iload_n (i := 1) dX10_of_1 rfl rfl ?_
      refine V.cv1D (ci := 10) dX10_of_2 lk_X10_150 (by decide) rfl hR.F.x (k_callAtY hR hI i hi ⟨rfl, rfl⟩) (by decide) (by decide) (Nat.le_of_ble_eq_true rfl) (Nat.le_of_ble_eq_true rfl) (Nat.le_of_ble_eq_true rfl) ?_
      refine V.astore_n3 (by decide) dX10_of_5 ?_
      refine V.aload_n (i := 3) dX10_of_6 rfl rfl ?_
      refine V.ifnonnull (tgt := 16) dX10_of_7 rfl ?_
      refine V.iload_n (i := 2) dX10_of_16 rfl rfl ?_
      refine V.tableOut (tgt := 97) dX10_of_17 (by omega) rfl ?_
      refine V.aload_n (i := 0) dX10_of_97 rfl rfl ?_
      refine V.iconst dX10_of_98 ic_1 ?_
      refine V.cv1D (ci := 10) dX10_of_99 lk_X10_82 (by decide) rfl hR.F.x (k_finding hR _ (by decide) ⟨rfl, rfl⟩) (by decide) (by decide) (Nat.le_of_ble_eq_true rfl) (Nat.le_of_ble_eq_true rfl) (Nat.le_of_ble_eq_true rfl) ?_
      refine V.iret dX10_of_102 (Nat.le_of_ble_eq_true rfl) (Nat.le_of_ble_eq_true rfl) ?_
      exact puF hp (if_neg (by omega)) hR rfl
  · skip
    refine V.aload_n (i := 0) dX10_of_0 rfl rfl ?_
    refine V.iload_n (i := 1) dX10_of_1 rfl rfl ?_
    refine V.cv1D (ci := 10) dX10_of_2 lk_X10_150 (by decide) rfl hR.F.x (k_callAtN hR hI c hc ⟨rfl, rfl⟩) (by decide) (by decide) (Nat.le_of_ble_eq_true rfl) (Nat.le_of_ble_eq_true rfl) (Nat.le_of_ble_eq_true rfl) ?_
    refine V.astore_n3N (by decide) dX10_of_5 ?_
    refine V.aload_nN (i := 3) dX10_of_6 rfl rfl ?_
    refine V.ifnonnullN dX10_of_7 ?_
    refine V.aload_n (i := 0) dX10_of_10 rfl rfl ?_
    refine V.iconst dX10_of_11 ic_1 ?_
    refine V.cv1D (ci := 10) dX10_of_12 lk_X10_82 (by decide) rfl hR.F.x (k_finding hR _ (by decide) ⟨rfl, rfl⟩) (by decide) (by decide) (Nat.le_of_ble_eq_true rfl) (Nat.le_of_ble_eq_true rfl) (Nat.le_of_ble_eq_true rfl) ?_
    refine V.iret dX10_of_15 (Nat.le_of_ble_eq_true rfl) (Nat.le_of_ble_eq_true rfl) ?_
    exact puF hp (if_neg (fun z => hc z.1)) hR rfl
set_option maxRecDepth 100000 in
theorem k_told (hR : Rp σ x P G) (hI : Inv G) (c w : Int32) (hp : PU x σ (s_told G c w) post) : MX10_told E 3 0 0 [.ref x, .int c, .int w] σ post := by
  refine MA.of RX10 "told" [some (.ref x), some (.int c), some (.int w), none] rfl rfl rfl (catAll rfl) (Nat.le_of_ble_eq_true rfl) rfl (fun X => ?_)
  have h50 := hI.lkN.2
  by_cases hc : 0 ≤ c.toInt ∧ c.toInt < nLk G
  · obtain ⟨i, hi, rfl⟩ := idxOf hc
    by_cases hw : 0 ≤ w.toInt ∧ w.toInt < ((5 : Nat) : Int)
    · obtain ⟨j, hj, rfl⟩ := idxOf hw
      have hR0 : s_told G (nI i) (nI j) = (if j = 0 then G 27 i else if j = 1 then G 28 i else if j = 2 then G 29 i else if j = 3 then G 30 i else b2 (¬ G 31 i = 0), G) := by unfold s_told; rw [tn_nI (by omega), tn_nI (by omega), if_pos (by omega)]
      rw [hR0] at hp
      have hlk := hI.lk i hi
      rcases (show j = 0 ∨ j = 1 ∨ j = 2 ∨ j = 3 ∨ j = 4 by omega) with rfl | rfl | rfl | rfl | rfl
      · skip
        refine V.aload_n (i := 0) dX10_told_0 rfl rfl ?_
        refine V.iload_n (i := 1) dX10_told_1 rfl rfl ?_
        refine V.cv1D (ci := 10) dX10_told_2 lk_X10_226 (by decide) rfl hR.F.x (k_lookAtY hR hI i hi ⟨rfl, rfl⟩) (by decide) (by decide) (Nat.le_of_ble_eq_true rfl) (Nat.le_of_ble_eq_true rfl) (Nat.le_of_ble_eq_true rfl) ?_
        refine V.astore_n3 (by decide) dX10_told_5 ?_
        refine V.aload_n (i := 3) dX10_told_6 rfl rfl ?_
        refine V.ifnonnull (tgt := 16) dX10_told_7 rfl ?_
        refine V.iload_n (i := 2) dX10_told_16 rfl rfl ?_
        refine V.tableIn (tgt := 52) (off := 35) dX10_told_17 (by decide) (by decide) rfl rfl ?_
        refine V.aload_n (i := 3) dX10_told_52 rfl rfl ?_
        refine V.getS dX10_told_53 fl_X10_230 rfl (hR.L.at i hi).2 (hR.L.call i hi) ?_
        refine V.geti dX10_told_56 fl_X10_147 rfl (hR.C.at _ hlk.2).2 ?_
        refine V.as _ ((hR.C.no _ hlk.2).trans hlk.1.symm) ?_
        refine V.iret dX10_told_59 (Nat.le_of_ble_eq_true rfl) (Nat.le_of_ble_eq_true rfl) ?_
        exact pu hp rfl hR rfl
      · skip
        refine V.aload_n (i := 0) dX10_told_0 rfl rfl ?_
        refine V.iload_n (i := 1) dX10_told_1 rfl rfl ?_
        refine V.cv1D (ci := 10) dX10_told_2 lk_X10_226 (by decide) rfl hR.F.x (k_lookAtY hR hI i hi ⟨rfl, rfl⟩) (by decide) (by decide) (Nat.le_of_ble_eq_true rfl) (Nat.le_of_ble_eq_true rfl) (Nat.le_of_ble_eq_true rfl) ?_
        refine V.astore_n3 (by decide) dX10_told_5 ?_
        refine V.aload_n (i := 3) dX10_told_6 rfl rfl ?_
        refine V.ifnonnull (tgt := 16) dX10_told_7 rfl ?_
        refine V.iload_n (i := 2) dX10_told_16 rfl rfl ?_
        refine V.tableIn (tgt := 60) (off := 43) dX10_told_17 (by decide) (by decide) rfl rfl ?_
        refine V.aload_n (i := 3) dX10_told_60 rfl rfl ?_
        refine V.geti dX10_told_61 fl_X10_233 rfl (hR.L.at i hi).2 ?_
        refine V.as _ (hR.L.by_ i hi) ?_
        refine V.iret dX10_told_64 (Nat.le_of_ble_eq_true rfl) (Nat.le_of_ble_eq_true rfl) ?_
        exact pu hp rfl hR rfl
      · skip
        refine V.aload_n (i := 0) dX10_told_0 rfl rfl ?_
        refine V.iload_n (i := 1) dX10_told_1 rfl rfl ?_
        refine V.cv1D (ci := 10) dX10_told_2 lk_X10_226 (by decide) rfl hR.F.x (k_lookAtY hR hI i hi ⟨rfl, rfl⟩) (by decide) (by decide) (Nat.le_of_ble_eq_true rfl) (Nat.le_of_ble_eq_true rfl) (Nat.le_of_ble_eq_true rfl) ?_
        refine V.astore_n3 (by decide) dX10_told_5 ?_
        refine V.aload_n (i := 3) dX10_told_6 rfl rfl ?_
        refine V.ifnonnull (tgt := 16) dX10_told_7 rfl ?_
        refine V.iload_n (i := 2) dX10_told_16 rfl rfl ?_
        refine V.tableIn (tgt := 65) (off := 48) dX10_told_17 (by decide) (by decide) rfl rfl ?_
        refine V.aload_n (i := 3) dX10_told_65 rfl rfl ?_
        refine V.geti dX10_told_66 fl_X10_236 rfl (hR.L.at i hi).2 ?_
        refine V.as _ (hR.L.on_ i hi) ?_
        refine V.iret dX10_told_69 (Nat.le_of_ble_eq_true rfl) (Nat.le_of_ble_eq_true rfl) ?_
        exact pu hp rfl hR rfl
      · skip
        refine V.aload_n (i := 0) dX10_told_0 rfl rfl ?_
        refine V.iload_n (i := 1) dX10_told_1 rfl rfl ?_
        refine V.cv1D (ci := 10) dX10_told_2 lk_X10_226 (by decide) rfl hR.F.x (k_lookAtY hR hI i hi ⟨rfl, rfl⟩) (by decide) (by decide) (Nat.le_of_ble_eq_true rfl) (Nat.le_of_ble_eq_true rfl) (Nat.le_of_ble_eq_true rfl) ?_
        refine V.astore_n3 (by decide) dX10_told_5 ?_
        refine V.aload_n (i := 3) dX10_told_6 rfl rfl ?_
        refine V.ifnonnull (tgt := 16) dX10_told_7 rfl ?_
        refine V.iload_n (i := 2) dX10_told_16 rfl rfl ?_
        refine V.tableIn (tgt := 70) (off := 53) dX10_told_17 (by decide) (by decide) rfl rfl ?_
        refine V.aload_n (i := 3) dX10_told_70 rfl rfl ?_
        refine V.geti dX10_told_71 fl_X10_239 rfl (hR.L.at i hi).2 ?_
        refine V.as _ (hR.L.flt i hi) ?_
        refine V.iret dX10_told_74 (Nat.le_of_ble_eq_true rfl) (Nat.le_of_ble_eq_true rfl) ?_
        exact pu hp rfl hR rfl
      · skip
        refine V.aload_n (i := 0) dX10_told_0 rfl rfl ?_
        refine V.iload_n (i := 1) dX10_told_1 rfl rfl ?_
        refine V.cv1D (ci := 10) dX10_told_2 lk_X10_226 (by decide) rfl hR.F.x (k_lookAtY hR hI i hi ⟨rfl, rfl⟩) (by decide) (by decide) (Nat.le_of_ble_eq_true rfl) (Nat.le_of_ble_eq_true rfl) (Nat.le_of_ble_eq_true rfl) ?_
        refine V.astore_n3 (by decide) dX10_told_5 ?_
        refine V.aload_n (i := 3) dX10_told_6 rfl rfl ?_
        refine V.ifnonnull (tgt := 16) dX10_told_7 rfl ?_
        refine V.iload_n (i := 2) dX10_told_16 rfl rfl ?_
        refine V.tableIn (tgt := 75) (off := 58) dX10_told_17 (by decide) (by decide) rfl rfl ?_
        refine V.aload_n (i := 3) dX10_told_75 rfl rfl ?_
        refine V.geti dX10_told_76 fl_X10_242 rfl (hR.L.at i hi).2 ?_
        refine V.as _ (hR.L.hold i hi) ?_
        refine V.if_eq (tgt := 86) dX10_told_79 rfl (fun c79 => ?_) (fun c79 => ?_)
        · refine V.iconst dX10_told_86 ic_0 ?_
          refine V.iret dX10_told_87 (Nat.le_of_ble_eq_true rfl) (Nat.le_of_ble_eq_true rfl) ?_
          first | exact pv hp rfl (b2T (p := ¬ G 31 i = 0) c79).symm hR rfl | exact pv hp rfl (b2F (p := ¬ G 31 i = 0) (Classical.not_not.mpr c79)).symm hR rfl
        · refine V.iconst dX10_told_82 ic_1 ?_
          refine V.goto (tgt := 87) dX10_told_83 rfl ?_
          refine V.iret dX10_told_87 (Nat.le_of_ble_eq_true rfl) (Nat.le_of_ble_eq_true rfl) ?_
          first | exact pv hp rfl (b2T (p := ¬ G 31 i = 0) c79).symm hR rfl | exact pv hp rfl (b2F (p := ¬ G 31 i = 0) (Classical.not_not.mpr c79)).symm hR rfl
    · skip
      refine V.aload_n (i := 0) dX10_told_0 rfl rfl ?_
      refine V.iload_n (i := 1) dX10_told_1 rfl rfl ?_
      refine V.cv1D (ci := 10) dX10_told_2 lk_X10_226 (by decide) rfl hR.F.x (k_lookAtY hR hI i hi ⟨rfl, rfl⟩) (by decide) (by decide) (Nat.le_of_ble_eq_true rfl) (Nat.le_of_ble_eq_true rfl) (Nat.le_of_ble_eq_true rfl) ?_
      refine V.astore_n3 (by decide) dX10_told_5 ?_
      refine V.aload_n (i := 3) dX10_told_6 rfl rfl ?_
      refine V.ifnonnull (tgt := 16) dX10_told_7 rfl ?_
      refine V.iload_n (i := 2) dX10_told_16 rfl rfl ?_
      refine V.tableOut (tgt := 88) dX10_told_17 (by omega) rfl ?_
      refine V.aload_n (i := 0) dX10_told_88 rfl rfl ?_
      refine V.iconst dX10_told_89 ic_1 ?_
      refine V.cv1D (ci := 10) dX10_told_90 lk_X10_82 (by decide) rfl hR.F.x (k_finding hR _ (by decide) ⟨rfl, rfl⟩) (by decide) (by decide) (Nat.le_of_ble_eq_true rfl) (Nat.le_of_ble_eq_true rfl) (Nat.le_of_ble_eq_true rfl) ?_
      refine V.iret dX10_told_93 (Nat.le_of_ble_eq_true rfl) (Nat.le_of_ble_eq_true rfl) ?_
      exact puF hp (if_neg (by omega)) hR rfl
  · skip
    refine V.aload_n (i := 0) dX10_told_0 rfl rfl ?_
    refine V.iload_n (i := 1) dX10_told_1 rfl rfl ?_
    refine V.cv1D (ci := 10) dX10_told_2 lk_X10_226 (by decide) rfl hR.F.x (k_lookAtN hR hI c hc ⟨rfl, rfl⟩) (by decide) (by decide) (Nat.le_of_ble_eq_true rfl) (Nat.le_of_ble_eq_true rfl) (Nat.le_of_ble_eq_true rfl) ?_
    refine V.astore_n3N (by decide) dX10_told_5 ?_
    refine V.aload_nN (i := 3) dX10_told_6 rfl rfl ?_
    refine V.ifnonnullN dX10_told_7 ?_
    refine V.aload_n (i := 0) dX10_told_10 rfl rfl ?_
    refine V.iconst dX10_told_11 ic_1 ?_
    refine V.cv1D (ci := 10) dX10_told_12 lk_X10_82 (by decide) rfl hR.F.x (k_finding hR _ (by decide) ⟨rfl, rfl⟩) (by decide) (by decide) (Nat.le_of_ble_eq_true rfl) (Nat.le_of_ble_eq_true rfl) (Nat.le_of_ble_eq_true rfl) ?_
    refine V.iret dX10_told_15 (Nat.le_of_ble_eq_true rfl) (Nat.le_of_ble_eq_true rfl) ?_
    exact puF hp (if_neg (fun z => hc z.1)) hR rfl
set_option maxRecDepth 100000 in
theorem k_shipsInPorts (hR : Rp σ x P G) (hI : Inv G) (hp : post (some (.int (nI (inPorts G)))) σ) : MX10_shipsInPorts E 1 0 0 [.ref x] σ post := by
  refine MA.of RX10 "shipsInPorts" [some (.ref x), none, none] rfl rfl rfl (catAll rfl) (Nat.le_of_ble_eq_true rfl) rfl (fun X => ?_)
  have h16 := hI.shN
  have loop : ∀ m k, m + k = nSh G → V E X RX10 "shipsInPorts" cX10_shipsInPorts 3 (some .int) 1 0 0 (QM E X post 0 0) σ 0 0 4 [some (.ref x), some (.int (nI (fb_ct (fun s => decide (openOf G (nI s) ≠ none)) k))), some (.int (nI k))] [] := by
    intro m
    induction m with
    | zero =>
      intro k hk
      refine V.iload_n (i := 2) dX10_shipsInPorts_4 rfl rfl ?_
      refine V.aload_n (i := 0) dX10_shipsInPorts_5 rfl rfl ?_
      refine V.geti dX10_shipsInPorts_6 fl_X10_86 rfl hR.F.x ?_
      refine V.icmp_geT (tgt := 38) dX10_shipsInPorts_9 rfl (lpT (hR.S.shipN.trans h16.1) (by omega) (by omega)) ?_
      refine V.iload_n (i := 1) dX10_shipsInPorts_38 rfl rfl ?_
      refine V.iret dX10_shipsInPorts_39 (Nat.le_of_ble_eq_true rfl) (Nat.le_of_ble_eq_true rfl) ?_
      rw [show k = nSh G by omega]; exact hp
    | succ m ih =>
      intro k hk
      have hb := hR.H.berth k (by omega)
      cases ho : openOf G (nI k) with
      | none =>
        rw [ho] at hb
        refine V.iload_n (i := 2) dX10_shipsInPorts_4 rfl rfl ?_
        refine V.aload_n (i := 0) dX10_shipsInPorts_5 rfl rfl ?_
        refine V.geti dX10_shipsInPorts_6 fl_X10_86 rfl hR.F.x ?_
        refine V.icmp_geF (tgt := 38) dX10_shipsInPorts_9 rfl (lpF (hR.S.shipN.trans h16.1) (by omega) (by omega)) ?_
        refine V.iload_n (i := 1) dX10_shipsInPorts_12 rfl rfl ?_
        refine V.aload_n (i := 0) dX10_shipsInPorts_13 rfl rfl ?_
        refine V.getS dX10_shipsInPorts_14 fl_X10_11 rfl hR.F.x hR.F.ships.1 ?_
        refine V.iload_n (i := 2) dX10_shipsInPorts_17 rfl rfl ?_
        refine V.aaldS (t := 32) dX10_shipsInPorts_18 hR.F.ships.2 (by decide) (by decide) rfl (show _ < 16 from (by omega)) (by decide) (hR.H.at k (by omega)).1 ?_
        refine V.getN dX10_shipsInPorts_19 fl_X10_133 rfl (hR.H.at k (by omega)).2 hb ?_
        refine V.ifnullN (tgt := 29) dX10_shipsInPorts_22 rfl ?_
        refine V.iconst dX10_shipsInPorts_29 ic_0 ?_
        refine V.iadd dX10_shipsInPorts_30 ?_
        refine V.as _ (fb_ctF (by simp [ho])) ?_
        refine V.istore_n1 (by decide) dX10_shipsInPorts_31 ?_
        refine V.iinc2 (by decide) dX10_shipsInPorts_32 (inc1 _) ?_
        refine V.goto (tgt := 4) dX10_shipsInPorts_35 rfl ?_
        exact ih (k + 1) (by omega)
      | some c =>
        rw [ho] at hb
        refine V.iload_n (i := 2) dX10_shipsInPorts_4 rfl rfl ?_
        refine V.aload_n (i := 0) dX10_shipsInPorts_5 rfl rfl ?_
        refine V.geti dX10_shipsInPorts_6 fl_X10_86 rfl hR.F.x ?_
        refine V.icmp_geF (tgt := 38) dX10_shipsInPorts_9 rfl (lpF (hR.S.shipN.trans h16.1) (by omega) (by omega)) ?_
        refine V.iload_n (i := 1) dX10_shipsInPorts_12 rfl rfl ?_
        refine V.aload_n (i := 0) dX10_shipsInPorts_13 rfl rfl ?_
        refine V.getS dX10_shipsInPorts_14 fl_X10_11 rfl hR.F.x hR.F.ships.1 ?_
        refine V.iload_n (i := 2) dX10_shipsInPorts_17 rfl rfl ?_
        refine V.aaldS (t := 32) dX10_shipsInPorts_18 hR.F.ships.2 (by decide) (by decide) rfl (show _ < 16 from (by omega)) (by decide) (hR.H.at k (by omega)).1 ?_
        refine V.getS dX10_shipsInPorts_19 fl_X10_133 rfl (hR.H.at k (by omega)).2 hb ?_
        refine V.ifnull dX10_shipsInPorts_22 ?_
        refine V.iconst dX10_shipsInPorts_25 ic_1 ?_
        refine V.goto (tgt := 30) dX10_shipsInPorts_26 rfl ?_
        refine V.iadd dX10_shipsInPorts_30 ?_
        refine V.as _ (fb_ctT (by simp [ho])) ?_
        refine V.istore_n1 (by decide) dX10_shipsInPorts_31 ?_
        refine V.iinc2 (by decide) dX10_shipsInPorts_32 (inc1 _) ?_
        refine V.goto (tgt := 4) dX10_shipsInPorts_35 rfl ?_
        exact ih (k + 1) (by omega)
  refine V.iconst dX10_shipsInPorts_0 ic_0 ?_
  refine V.istore_n1 (by decide) dX10_shipsInPorts_1 ?_
  refine V.iconst dX10_shipsInPorts_2 ic_0 ?_
  refine V.istore_n2 (by decide) dX10_shipsInPorts_3 ?_
  exact loop (nSh G) 0 rfl
set_option maxRecDepth 100000 in
theorem k_heldCalls (hR : Rp σ x P G) (hI : Inv G) (hp : post (some (.int (nI (heldN G)))) σ) : MX10_heldCalls E 1 0 0 [.ref x] σ post := by
  refine MA.of RX10 "heldCalls" [some (.ref x), none, none] rfl rfl rfl (catAll rfl) (Nat.le_of_ble_eq_true rfl) rfl (fun X => ?_)
  have h16 := hI.caN
  have loop : ∀ m k, m + k = nCa G → V E X RX10 "heldCalls" cX10_heldCalls 3 (some .int) 1 0 0 (QM E X post 0 0) σ 0 0 4 [some (.ref x), some (.int (nI (fb_ct (fun c => decide (¬ G 18 c = 0)) k))), some (.int (nI k))] [] := by
    intro m
    induction m with
    | zero =>
      intro k hk
      refine V.iload_n (i := 2) dX10_heldCalls_4 rfl rfl ?_
      refine V.aload_n (i := 0) dX10_heldCalls_5 rfl rfl ?_
      refine V.geti dX10_heldCalls_6 fl_X10_141 rfl hR.F.x ?_
      refine V.icmp_geT (tgt := 38) dX10_heldCalls_9 rfl (lpT (hR.S.caN.trans h16.1) (by omega) (by omega)) ?_
      refine V.iload_n (i := 1) dX10_heldCalls_38 rfl rfl ?_
      refine V.iret dX10_heldCalls_39 (Nat.le_of_ble_eq_true rfl) (Nat.le_of_ble_eq_true rfl) ?_
      rw [show k = nCa G by omega]; exact hp
    | succ m ih =>
      intro k hk
      refine V.iload_n (i := 2) dX10_heldCalls_4 rfl rfl ?_
      refine V.aload_n (i := 0) dX10_heldCalls_5 rfl rfl ?_
      refine V.geti dX10_heldCalls_6 fl_X10_141 rfl hR.F.x ?_
      refine V.icmp_geF (tgt := 38) dX10_heldCalls_9 rfl (lpF (hR.S.caN.trans h16.1) (by omega) (by omega)) ?_
      refine V.iload_n (i := 1) dX10_heldCalls_12 rfl rfl ?_
      refine V.aload_n (i := 0) dX10_heldCalls_13 rfl rfl ?_
      refine V.getS dX10_heldCalls_14 fl_X10_24 rfl hR.F.x hR.F.calls.1 ?_
      refine V.iload_n (i := 2) dX10_heldCalls_17 rfl rfl ?_
      refine V.aaldS (t := 33) dX10_heldCalls_18 hR.F.calls.2 (by decide) (by decide) rfl (show _ < 50 from (by omega)) (by decide) (hR.C.at k (by omega)).1 ?_
      refine V.geti dX10_heldCalls_19 fl_X10_157 rfl (hR.C.at k (by omega)).2 ?_
      refine V.as _ (hR.C.held k (by omega)) ?_
      refine V.if_eq (tgt := 29) dX10_heldCalls_22 rfl (fun c22 => ?_) (fun c22 => ?_)
      · refine V.iconst dX10_heldCalls_29 ic_0 ?_
        refine V.iadd dX10_heldCalls_30 ?_
        first | refine V.as _ (fb_ctF (by simpa using c22)) ?_ | refine V.as _ (fb_ctT (by simpa using c22)) ?_
        refine V.istore_n1 (by decide) dX10_heldCalls_31 ?_
        refine V.iinc2 (by decide) dX10_heldCalls_32 (inc1 _) ?_
        refine V.goto (tgt := 4) dX10_heldCalls_35 rfl ?_
        exact ih (k + 1) (by omega)
      · refine V.iconst dX10_heldCalls_25 ic_1 ?_
        refine V.goto (tgt := 30) dX10_heldCalls_26 rfl ?_
        refine V.iadd dX10_heldCalls_30 ?_
        first | refine V.as _ (fb_ctF (by simpa using c22)) ?_ | refine V.as _ (fb_ctT (by simpa using c22)) ?_
        refine V.istore_n1 (by decide) dX10_heldCalls_31 ?_
        refine V.iinc2 (by decide) dX10_heldCalls_32 (inc1 _) ?_
        refine V.goto (tgt := 4) dX10_heldCalls_35 rfl ?_
        exact ih (k + 1) (by omega)
  refine V.iconst dX10_heldCalls_0 ic_0 ?_
  refine V.istore_n1 (by decide) dX10_heldCalls_1 ?_
  refine V.iconst dX10_heldCalls_2 ic_0 ?_
  refine V.istore_n2 (by decide) dX10_heldCalls_3 ?_
  exact loop (nCa G) 0 rfl
set_option maxRecDepth 100000 in
theorem k_bannedShips (hR : Rp σ x P G) (hI : Inv G) (hp : post (some (.int (nI (banN G)))) σ) : MX10_bannedShips E 2 0 0 [.ref x] σ post := by
  refine MA.of RX10 "bannedShips" [some (.ref x), none, none] rfl rfl rfl (catAll rfl) (Nat.le_of_ble_eq_true rfl) rfl (fun X => ?_)
  have h16 := hI.shN
  have loop : ∀ m k, m + k = nSh G → V E X RX10 "bannedShips" cX10_bannedShips 3 (some .int) 2 0 0 (QM E X post 0 0) σ 0 0 4 [some (.ref x), some (.int (nI (fb_ct (fun c => decide (¬ G 36 c = 0)) k))), some (.int (nI k))] [] := by
    intro m
    induction m with
    | zero =>
      intro k hk
      refine V.iload_n (i := 2) dX10_bannedShips_4 rfl rfl ?_
      refine V.aload_n (i := 0) dX10_bannedShips_5 rfl rfl ?_
      refine V.geti dX10_bannedShips_6 fl_X10_86 rfl hR.F.x ?_
      refine V.icmp_geT (tgt := 38) dX10_bannedShips_9 rfl (lpT (hR.S.shipN.trans h16.1) (by omega) (by omega)) ?_
      refine V.iload_n (i := 1) dX10_bannedShips_38 rfl rfl ?_
      refine V.iret dX10_bannedShips_39 (Nat.le_of_ble_eq_true rfl) (Nat.le_of_ble_eq_true rfl) ?_
      rw [show k = nSh G by omega]; exact hp
    | succ m ih =>
      intro k hk
      refine V.iload_n (i := 2) dX10_bannedShips_4 rfl rfl ?_
      refine V.aload_n (i := 0) dX10_bannedShips_5 rfl rfl ?_
      refine V.geti dX10_bannedShips_6 fl_X10_86 rfl hR.F.x ?_
      refine V.icmp_geF (tgt := 38) dX10_bannedShips_9 rfl (lpF (hR.S.shipN.trans h16.1) (by omega) (by omega)) ?_
      refine V.iload_n (i := 1) dX10_bannedShips_12 rfl rfl ?_
      refine V.aload_n (i := 0) dX10_bannedShips_13 rfl rfl ?_
      refine V.getS dX10_bannedShips_14 fl_X10_11 rfl hR.F.x hR.F.ships.1 ?_
      refine V.iload_n (i := 2) dX10_bannedShips_17 rfl rfl ?_
      refine V.aaldS (t := 32) dX10_bannedShips_18 hR.F.ships.2 (by decide) (by decide) rfl (show _ < 16 from (by omega)) (by decide) (hR.H.at k (by omega)).1 ?_
      refine V.cv0D (ci := 5) dX10_bannedShips_19 lk_X10_137 (by decide) rfl (hR.H.at k (by omega)).2 (k_isBanned hR hI k (by omega) ⟨rfl, rfl⟩) (by decide) (by decide) (Nat.le_of_ble_eq_true rfl) (Nat.le_of_ble_eq_true rfl) (Nat.le_of_ble_eq_true rfl) ?_
      refine V.ifb_eq (tgt := 29) dX10_bannedShips_22 rfl (fun c22 => ?_) (fun c22 => ?_)
      · refine V.iconst dX10_bannedShips_29 ic_0 ?_
        refine V.iadd dX10_bannedShips_30 ?_
        first | refine V.as _ (fb_ctF (by simpa using c22)) ?_ | refine V.as _ (fb_ctT (by simpa using c22)) ?_
        refine V.istore_n1 (by decide) dX10_bannedShips_31 ?_
        refine V.iinc2 (by decide) dX10_bannedShips_32 (inc1 _) ?_
        refine V.goto (tgt := 4) dX10_bannedShips_35 rfl ?_
        exact ih (k + 1) (by omega)
      · refine V.iconst dX10_bannedShips_25 ic_1 ?_
        refine V.goto (tgt := 30) dX10_bannedShips_26 rfl ?_
        refine V.iadd dX10_bannedShips_30 ?_
        first | refine V.as _ (fb_ctF (by simpa using c22)) ?_ | refine V.as _ (fb_ctT (by simpa using c22)) ?_
        refine V.istore_n1 (by decide) dX10_bannedShips_31 ?_
        refine V.iinc2 (by decide) dX10_bannedShips_32 (inc1 _) ?_
        refine V.goto (tgt := 4) dX10_bannedShips_35 rfl ?_
        exact ih (k + 1) (by omega)
  refine V.iconst dX10_bannedShips_0 ic_0 ?_
  refine V.istore_n1 (by decide) dX10_bannedShips_1 ?_
  refine V.iconst dX10_bannedShips_2 ic_0 ?_
  refine V.istore_n2 (by decide) dX10_bannedShips_3 ?_
  exact loop (nSh G) 0 rfl
set_option maxRecDepth 100000 in
theorem k_count (hR : Rp σ x P G) (hI : Inv G) (w : Int32) (hp : PU x σ (s_count G w) post) : MX10_count E 3 0 0 [.ref x, .int w] σ post := by
  refine MA.of RX10 "count" [some (.ref x), some (.int w)] rfl rfl rfl (catAll rfl) (Nat.le_of_ble_eq_true rfl) rfl (fun X => ?_)
  by_cases hw : 0 ≤ w.toInt ∧ w.toInt < ((12 : Nat) : Int)
  · obtain ⟨j, hj, rfl⟩ := idxOf hw
    have hR0 : s_count G (nI j) = (cntW G j, G) := by unfold s_count; rw [tn_nI (by omega), if_pos (by omega)]
    rw [hR0] at hp
    rcases (show j = 0 ∨ j = 1 ∨ j = 2 ∨ j = 3 ∨ j = 4 ∨ j = 5 ∨ j = 6 ∨ j = 7 ∨ j = 8 ∨ j = 9 ∨ j = 10 ∨ j = 11 by omega) with rfl | rfl | rfl | rfl | rfl | rfl | rfl | rfl | rfl | rfl | rfl | rfl
    · skip
      refine V.iload_n (i := 1) dX10_count_0 rfl rfl ?_
      refine V.tableIn (tgt := 64) (off := 63) dX10_count_1 (by decide) (by decide) rfl rfl ?_
      refine V.aload_n (i := 0) dX10_count_64 rfl rfl ?_
      refine V.geti dX10_count_65 fl_X10_86 rfl hR.F.x ?_
      refine V.iret dX10_count_68 (Nat.le_of_ble_eq_true rfl) (Nat.le_of_ble_eq_true rfl) ?_
      exact pv hp rfl hR.S.shipN hR rfl
    · skip
      refine V.iload_n (i := 1) dX10_count_0 rfl rfl ?_
      refine V.tableIn (tgt := 69) (off := 68) dX10_count_1 (by decide) (by decide) rfl rfl ?_
      refine V.aload_n (i := 0) dX10_count_69 rfl rfl ?_
      refine V.geti dX10_count_70 fl_X10_112 rfl hR.F.x ?_
      refine V.iret dX10_count_73 (Nat.le_of_ble_eq_true rfl) (Nat.le_of_ble_eq_true rfl) ?_
      exact pv hp rfl hR.S.chN hR rfl
    · skip
      refine V.iload_n (i := 1) dX10_count_0 rfl rfl ?_
      refine V.tableIn (tgt := 74) (off := 73) dX10_count_1 (by decide) (by decide) rfl rfl ?_
      refine V.aload_n (i := 0) dX10_count_74 rfl rfl ?_
      refine V.geti dX10_count_75 fl_X10_141 rfl hR.F.x ?_
      refine V.iret dX10_count_78 (Nat.le_of_ble_eq_true rfl) (Nat.le_of_ble_eq_true rfl) ?_
      exact pv hp rfl hR.S.caN hR rfl
    · skip
      refine V.iload_n (i := 1) dX10_count_0 rfl rfl ?_
      refine V.tableIn (tgt := 79) (off := 78) dX10_count_1 (by decide) (by decide) rfl rfl ?_
      refine V.aload_n (i := 0) dX10_count_79 rfl rfl ?_
      refine V.geti dX10_count_80 fl_X10_210 rfl hR.F.x ?_
      refine V.iret dX10_count_83 (Nat.le_of_ble_eq_true rfl) (Nat.le_of_ble_eq_true rfl) ?_
      exact pv hp rfl hR.S.lkN hR rfl
    · skip
      refine V.iload_n (i := 1) dX10_count_0 rfl rfl ?_
      refine V.tableIn (tgt := 84) (off := 83) dX10_count_1 (by decide) (by decide) rfl rfl ?_
      refine V.aload_n (i := 0) dX10_count_84 rfl rfl ?_
      refine V.geti dX10_count_85 fl_X10_185 rfl hR.F.x ?_
      refine V.iret dX10_count_88 (Nat.le_of_ble_eq_true rfl) (Nat.le_of_ble_eq_true rfl) ?_
      exact pv hp rfl hR.S.trN hR rfl
    · skip
      refine V.iload_n (i := 1) dX10_count_0 rfl rfl ?_
      refine V.tableIn (tgt := 89) (off := 88) dX10_count_1 (by decide) (by decide) rfl rfl ?_
      refine V.aload_n (i := 0) dX10_count_89 rfl rfl ?_
      refine V.getS dX10_count_90 fl_X10_43 rfl hR.F.x hR.F.tape.1 ?_
      refine V.geti dX10_count_93 fl_X10_178 rfl hR.F.tape.2 ?_
      refine V.iret dX10_count_96 (Nat.le_of_ble_eq_true rfl) (Nat.le_of_ble_eq_true rfl) ?_
      exact pv hp rfl hR.S.tpN hR rfl
    · skip
      refine V.iload_n (i := 1) dX10_count_0 rfl rfl ?_
      refine V.tableIn (tgt := 97) (off := 96) dX10_count_1 (by decide) (by decide) rfl rfl ?_
      refine V.aload_n (i := 0) dX10_count_97 rfl rfl ?_
      refine V.geti dX10_count_98 fl_X10_79 rfl hR.F.x ?_
      refine V.iret dX10_count_101 (Nat.le_of_ble_eq_true rfl) (Nat.le_of_ble_eq_true rfl) ?_
      exact pv hp rfl hR.S.day hR rfl
    · skip
      refine V.iload_n (i := 1) dX10_count_0 rfl rfl ?_
      refine V.tableIn (tgt := 102) (off := 101) dX10_count_1 (by decide) (by decide) rfl rfl ?_
      refine V.aload_n (i := 0) dX10_count_102 rfl rfl ?_
      refine V.geti dX10_count_103 fl_X10_318 rfl hR.F.x ?_
      refine V.iret dX10_count_106 (Nat.le_of_ble_eq_true rfl) (Nat.le_of_ble_eq_true rfl) ?_
      exact pv hp rfl hR.S.drN hR rfl
    · skip
      refine V.iload_n (i := 1) dX10_count_0 rfl rfl ?_
      refine V.tableIn (tgt := 107) (off := 106) dX10_count_1 (by decide) (by decide) rfl rfl ?_
      refine V.aload_n (i := 0) dX10_count_107 rfl rfl ?_
      refine V.cv0D (ci := 10) dX10_count_108 lk_X10_324 (by decide) rfl hR.F.x (k_shipsInPorts hR hI ⟨rfl, rfl⟩) (by decide) (by decide) (Nat.le_of_ble_eq_true rfl) (Nat.le_of_ble_eq_true rfl) (Nat.le_of_ble_eq_true rfl) ?_
      refine V.iret dX10_count_111 (Nat.le_of_ble_eq_true rfl) (Nat.le_of_ble_eq_true rfl) ?_
      exact pu hp rfl hR rfl
    · skip
      refine V.iload_n (i := 1) dX10_count_0 rfl rfl ?_
      refine V.tableIn (tgt := 112) (off := 111) dX10_count_1 (by decide) (by decide) rfl rfl ?_
      refine V.aload_n (i := 0) dX10_count_112 rfl rfl ?_
      refine V.cv0D (ci := 10) dX10_count_113 lk_X10_327 (by decide) rfl hR.F.x (k_heldCalls hR hI ⟨rfl, rfl⟩) (by decide) (by decide) (Nat.le_of_ble_eq_true rfl) (Nat.le_of_ble_eq_true rfl) (Nat.le_of_ble_eq_true rfl) ?_
      refine V.iret dX10_count_116 (Nat.le_of_ble_eq_true rfl) (Nat.le_of_ble_eq_true rfl) ?_
      exact pu hp rfl hR rfl
    · skip
      refine V.iload_n (i := 1) dX10_count_0 rfl rfl ?_
      refine V.tableIn (tgt := 117) (off := 116) dX10_count_1 (by decide) (by decide) rfl rfl ?_
      refine V.aload_n (i := 0) dX10_count_117 rfl rfl ?_
      refine V.cv0D (ci := 10) dX10_count_118 lk_X10_330 (by decide) rfl hR.F.x (k_bannedShips hR hI ⟨rfl, rfl⟩) (by decide) (by decide) (Nat.le_of_ble_eq_true rfl) (Nat.le_of_ble_eq_true rfl) (Nat.le_of_ble_eq_true rfl) ?_
      refine V.iret dX10_count_121 (Nat.le_of_ble_eq_true rfl) (Nat.le_of_ble_eq_true rfl) ?_
      exact pu hp rfl hR rfl
    · skip
      refine V.iload_n (i := 1) dX10_count_0 rfl rfl ?_
      refine V.tableIn (tgt := 122) (off := 121) dX10_count_1 (by decide) (by decide) rfl rfl ?_
      refine V.aload_n (i := 0) dX10_count_122 rfl rfl ?_
      refine V.geti dX10_count_123 fl_X10_321 rfl hR.F.x ?_
      refine V.iret dX10_count_126 (Nat.le_of_ble_eq_true rfl) (Nat.le_of_ble_eq_true rfl) ?_
      exact pv hp rfl hR.S.wtN hR rfl
  · skip
    refine V.iload_n (i := 1) dX10_count_0 rfl rfl ?_
    refine V.tableOut (tgt := 127) dX10_count_1 (by omega) rfl ?_
    refine V.aload_n (i := 0) dX10_count_127 rfl rfl ?_
    refine V.iconst dX10_count_128 ic_1 ?_
    refine V.cv1D (ci := 10) dX10_count_129 lk_X10_82 (by decide) rfl hR.F.x (k_finding hR _ (by decide) ⟨rfl, rfl⟩) (by decide) (by decide) (Nat.le_of_ble_eq_true rfl) (Nat.le_of_ble_eq_true rfl) (Nat.le_of_ble_eq_true rfl) ?_
    refine V.iret dX10_count_132 (Nat.le_of_ble_eq_true rfl) (Nat.le_of_ble_eq_true rfl) ?_
    exact puF hp (if_neg (by omega)) hR rfl
end CLS5

