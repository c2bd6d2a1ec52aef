/-! ===== the class: shares, risk ===== -/
theorem cnt_sub {G : GS} (of : Nat) (k : Int32) : counted G of k true ≤ counted G 2 (nI 0) true := fb_ct_sub (fun l _ h => by
  unfold cntB at h ⊢
  rw [show isOf G 2 (nI 0) l = true from decide_eq_true (Or.inl rfl)]
  cases h1 : isOf G of k l
  · rw [h1] at h; cases h
  · rw [h1] at h; exact h)
theorem cnt_two {G : GS} (k : Int32) (hs : Bool) : ∀ n, fb_ct (cntB G 2 k hs) n = fb_ct (cntB G 2 (nI 0) hs) n := fun n => fb_ct_cong (fun l _ => by
  unfold cntB
  rw [show isOf G 2 (nI 0) l = true from decide_eq_true (Or.inl rfl), show isOf G 2 k l = true from decide_eq_true (Or.inl rfl)])
theorem o1_b2 {p : Prop} [Decidable p] : o1 (b2 p) = if p then 1 else 0 := by
  unfold o1 b2
  by_cases h : p
  · rw [if_pos h, if_pos h]; rfl
  · rw [if_neg h, if_neg h]; rfl
section RISK
variable {E : VE} {σ : Sg} {G : GS} {x : Nat} {P : PT} {post : Option Value → Sg → Prop}
def TG (s : Sg) (P : PT) (G : GS) (of : Nat) (k : Int32) (i : Nat) : Prop := TL s (P 0 10) (fb_ct (cntB G of k false) i) (fb_ct (cntB G of k true) i) (fb_ct (cntB G 2 (nI 0) false) i) (fb_ct (cntB G 2 (nI 0) true) i)
set_option maxRecDepth 100000 in
theorem k_tallyUp (hR : Rp σ x P G) (hI : Inv G) (of : Nat) (k : Int32) (ho : of < 3) (hp : ∀ s, scr σ s ∧ TG s P G of k (nLk G) → post none s) : MX10_tallyUp E 3 0 0 [.ref x, .int (nI of), .int k] σ post := by
  refine MA.of RX10 "tallyUp" [some (.ref x), some (.int (nI of)), some (.int k), none, none] rfl rfl rfl (catAll rfl) (Nat.le_of_ble_eq_true rfl) rfl (fun X => ?_)
  have hn := hI.lkN
  have loop : ∀ m i s l4, m + i = nLk G → scr σ s → TG s P G of k i → V E X RX10 "tallyUp" cX10_tallyUp 5 none 3 0 0 (QM E X post 0 0) s 0 0 9 [some (.ref x), some (.int (nI of)), some (.int k), some (.int (nI i)), l4] [] := by
    intro m
    induction m with
    | zero =>
      intro i s l4 hi hs hT
      have hR2 := hR.scr hs
      rw [show i = nLk G by omega] at hT
      refine V.iload_n (i := 3) dX10_tallyUp_9 rfl rfl ?_
      refine V.aload_n (i := 0) dX10_tallyUp_10 rfl rfl ?_
      refine V.geti dX10_tallyUp_11 fl_X10_210 rfl hR2.F.x ?_
      refine V.icmp_geT (tgt := 65) dX10_tallyUp_14 rfl (lpT (hR2.S.lkN.trans hn.1) (by omega) (by omega)) ?_
      refine V.vret dX10_tallyUp_65 (Nat.le_of_ble_eq_true rfl) (Nat.le_of_ble_eq_true rfl) ?_
      exact hp s ⟨hs, hT⟩
    | succ m ih =>
      intro i s l4 hi hs hT
      have hR2 := hR.scr hs
      have hl : i < nLk G := by omega
      refine V.iload_n (i := 3) dX10_tallyUp_9 rfl rfl ?_
      refine V.aload_n (i := 0) dX10_tallyUp_10 rfl rfl ?_
      refine V.geti dX10_tallyUp_11 fl_X10_210 rfl hR2.F.x ?_
      refine V.icmp_geF (tgt := 65) dX10_tallyUp_14 rfl (lpF (hR2.S.lkN.trans hn.1) (by omega) (by omega)) ?_
      refine V.aload_n (i := 0) dX10_tallyUp_17 rfl rfl ?_
      refine V.getS dX10_tallyUp_18 fl_X10_30 rfl hR2.F.x hR2.F.looks.1 ?_
      refine V.iload_n (i := 3) dX10_tallyUp_21 rfl rfl ?_
      refine V.aaldS (t := 34) dX10_tallyUp_22 hR2.F.looks.2 (by decide) (by decide) rfl (show _ < 60 from (by omega)) (by decide) (hR2.L.at i hl).1 ?_
      refine V.astore4 (by decide) dX10_tallyUp_23 ?_
      refine V.aload_n (i := 0) dX10_tallyUp_25 rfl rfl ?_
      refine V.sipush dX10_tallyUp_26 sc_1095 ?_
      refine V.aload (i := 4) dX10_tallyUp_29 rfl ?_
      refine V.geti dX10_tallyUp_31 fl_X10_236 rfl (hR2.L.at i hl).2 ?_
      refine V.as _ (hR2.L.on_ i hl) ?_
      refine V.cv2D (ci := 10) dX10_tallyUp_34 lk_X10_344 (by decide) rfl hR2.F.x (k_isInLast hR2 hI 1095 i hl (by decide) ⟨rfl, rfl⟩) (by decide) (by decide) (Nat.le_of_ble_eq_true rfl) (Nat.le_of_ble_eq_true rfl) (Nat.le_of_ble_eq_true rfl) ?_
      refine V.ifb_eq (tgt := 59) dX10_tallyUp_37 rfl (fun c37 => ?_) (fun c37 => ?_)
      · first
        | (have hT3 : TG s56 P G of k (i + 1) := (by
            have q := h56.2
            rw [o1_b2] at q
            have hc : inLast G 1095 i = true := c37
            have e2 : isOf G 2 (nI 0) i = true := decide_eq_true (Or.inl rfl)
            unfold TG
            rw [fb_ct_succ, fb_ct_succ, fb_ct_succ, fb_ct_succ]
            unfold cntB at q ⊢
            rw [hc, e2]
            unfold o1 at q
            by_cases g : G 31 i = 0
            · cases h1 : isOf G of k i <;> simpa [h1, g] using q
            · cases h1 : isOf G of k i <;> simpa [h1, g] using q))
        | (have hT3 : TG s P G of k (i + 1) := (by
            have hc : inLast G 1095 i = false := by simpa using c37
            have q : ∀ o k2 b, fb_ct (cntB G o k2 b) (i + 1) = fb_ct (cntB G o k2 b) i := fun o k2 b => by
              rw [fb_ct_succ, if_neg]; rfl
              unfold cntB; rw [hc]; simp
            unfold TG
            rw [q, q, q, q]
            exact hT))
        refine V.iinc3 (by decide) dX10_tallyUp_59 (inc1 _) ?_
        refine V.goto (tgt := 9) dX10_tallyUp_62 rfl ?_
        first | exact ih (i + 1) s56 _ (by omega) (hs.trans h56.1) hT3 | exact ih (i + 1) s _ (by omega) hs hT3
      · refine V.aload_n (i := 0) dX10_tallyUp_40 rfl rfl ?_
        refine V.getS dX10_tallyUp_41 fl_X10_61 rfl hR2.F.x hR2.F.tally.1 ?_
        refine V.aload (i := 4) dX10_tallyUp_44 rfl ?_
        refine V.iload_n (i := 1) dX10_tallyUp_46 rfl rfl ?_
        refine V.iload_n (i := 2) dX10_tallyUp_47 rfl rfl ?_
        refine V.cs3D dX10_tallyUp_48 lk_X10_347 (k_isOfGroup hR2 hI i of k hl ho ⟨rfl, rfl⟩) (by decide) (by decide) (Nat.le_of_ble_eq_true rfl) (Nat.le_of_ble_eq_true rfl) (Nat.le_of_ble_eq_true rfl) ?_
        refine V.aload (i := 4) dX10_tallyUp_51 rfl ?_
        refine V.geti dX10_tallyUp_53 fl_X10_242 rfl (hR2.L.at i hl).2 ?_
        refine V.as _ (hR2.L.hold i hl) ?_
        refine V.cv2v (ci := 6) dX10_tallyUp_56 lk_X10_351 (by decide) rfl hR2.F.tally.2 (k_add hR2.F.tally.2 hT _ _ (fun s h => ⟨rfl, h⟩)) (by decide) (by decide) (Nat.le_of_ble_eq_true rfl) (Nat.le_of_ble_eq_true rfl) (Nat.le_of_ble_eq_true rfl) (fun s56 h56 => ?_)
        first
        | (have hT3 : TG s56 P G of k (i + 1) := (by
            have q := h56.2
            rw [o1_b2] at q
            have hc : inLast G 1095 i = true := c37
            have e2 : isOf G 2 (nI 0) i = true := decide_eq_true (Or.inl rfl)
            unfold TG
            rw [fb_ct_succ, fb_ct_succ, fb_ct_succ, fb_ct_succ]
            unfold cntB at q ⊢
            rw [hc, e2]
            unfold o1 at q
            by_cases g : G 31 i = 0
            · cases h1 : isOf G of k i <;> simpa [h1, g] using q
            · cases h1 : isOf G of k i <;> simpa [h1, g] using q))
        | (have hT3 : TG s P G of k (i + 1) := (by
            have hc : inLast G 1095 i = false := by simpa using c37
            have q : ∀ o k2 b, fb_ct (cntB G o k2 b) (i + 1) = fb_ct (cntB G o k2 b) i := fun o k2 b => by
              rw [fb_ct_succ, if_neg]; rfl
              unfold cntB; rw [hc]; simp
            unfold TG
            rw [q, q, q, q]
            exact hT))
        refine V.iinc3 (by decide) dX10_tallyUp_59 (inc1 _) ?_
        refine V.goto (tgt := 9) dX10_tallyUp_62 rfl ?_
        first | exact ih (i + 1) s56 _ (by omega) (hs.trans h56.1) hT3 | exact ih (i + 1) s _ (by omega) hs hT3
  refine V.aload_n (i := 0) dX10_tallyUp_0 rfl rfl ?_
  refine V.getS dX10_tallyUp_1 fl_X10_61 rfl hR.F.x hR.F.tally.1 ?_
  refine V.cv0v (ci := 6) dX10_tallyUp_4 lk_X10_341 (by decide) rfl hR.F.tally.2 (k_clear hR.F.tally.2 (fun s h => ⟨rfl, h⟩)) (by decide) (by decide) (Nat.le_of_ble_eq_true rfl) (Nat.le_of_ble_eq_true rfl) (Nat.le_of_ble_eq_true rfl) (fun s4 h4 => ?_)
  refine V.iconst dX10_tallyUp_7 ic_0 ?_
  refine V.istore_n3 (by decide) dX10_tallyUp_8 ?_
  exact loop (nLk G) 0 s4 _ (by omega) h4.1 h4.2
theorem TGdark {s : Sg} (hI : Inv G) {of : Nat} {k : Int32} : counted G of k false ≤ 60 ∧ counted G of k true ≤ counted G 2 (nI 0) true ∧ counted G 2 (nI 0) false ≤ 60 ∧ counted G 2 (nI 0) true ≤ 60 := by
  have h60 := hI.lkN.2
  have hcnt : ∀ a b c, counted G a b c ≤ 60 := fun a b c => Nat.le_trans (fb_ct_le _ _) h60
  exact ⟨hcnt _ _ _, cnt_sub of k, hcnt _ _ _, hcnt _ _ _⟩
set_option maxRecDepth 100000 in
theorem k_isDarkGroup (hR : Rp σ x P G) (hI : Inv G) (of : Nat) (k : Int32) (ho : of < 3) (hp : ∀ s, scr σ s → post (some (.int (b2 (darkB G of k = true)))) s) : MX10_isDarkGroup E 4 0 0 [.ref x, .int (nI of), .int k] σ post := by
  refine MA.of RX10 "isDarkGroup" [some (.ref x), some (.int (nI of)), some (.int k)] rfl rfl rfl (catAll rfl) (Nat.le_of_ble_eq_true rfl) rfl (fun X => ?_)
  have hd := TGdark (s := σ) hI (of := of) (k := k)
  refine V.aload_n (i := 0) dX10_isDarkGroup_0 rfl rfl ?_
  refine V.iload_n (i := 1) dX10_isDarkGroup_1 rfl rfl ?_
  refine V.iload_n (i := 2) dX10_isDarkGroup_2 rfl rfl ?_
  refine V.cv2v (ci := 10) dX10_isDarkGroup_3 lk_X10_248 (by decide) rfl hR.F.x (k_tallyUp hR hI of k ho (fun s h => ⟨rfl, h⟩)) (by decide) (by decide) (Nat.le_of_ble_eq_true rfl) (Nat.le_of_ble_eq_true rfl) (Nat.le_of_ble_eq_true rfl) (fun s3 h3 => ?_)
  have hR2 := hR.scr h3.1
  refine V.aload_n (i := 0) dX10_isDarkGroup_6 rfl rfl ?_
  refine V.getS dX10_isDarkGroup_7 fl_X10_61 rfl hR2.F.x hR2.F.tally.1 ?_
  refine V.cv0D (ci := 6) dX10_isDarkGroup_10 lk_X10_255 (by decide) rfl hR2.F.tally.2 (k_isDark hR2.F.tally.2 h3.2 hd.1 hd.2.1 hd.2.2.1 hd.2.2.2 ⟨rfl, rfl⟩) (by decide) (by decide) (Nat.le_of_ble_eq_true rfl) (Nat.le_of_ble_eq_true rfl) (Nat.le_of_ble_eq_true rfl) ?_
  refine V.zret dX10_isDarkGroup_13 (b2_01 _) (Nat.le_of_ble_eq_true rfl) (Nat.le_of_ble_eq_true rfl) ?_
  exact hp _ h3.1
theorem dark_two {a b : Nat} : darkN a b a b = false := by
  unfold darkN
  rw [decide_eq_false_iff_not]
  rintro ⟨-, h, -⟩
  rw [Nat.mul_comm] at h
  omega
set_option maxRecDepth 100000 in
theorem k_share (hR : Rp σ x P G) (hI : Inv G) (of k w : Int32) (hp : PU x σ (s_share G of k w) post) : MX10_share E 4 0 0 [.ref x, .int of, .int k, .int w] σ post := by
  refine MA.of RX10 "share" [some (.ref x), some (.int of), some (.int k), some (.int w)] rfl rfl rfl (catAll rfl) (Nat.le_of_ble_eq_true rfl) rfl (fun X => ?_)
  refine V.iload_n (i := 1) dX10_share_0 rfl rfl ?_
  refine V.iconst dX10_share_1 ic_3 ?_
  refine V.cs2D dX10_share_2 lk_X10_96 (k_isBelowN _ 3 (by decide) ⟨rfl, rfl⟩) (by decide) (by decide) (Nat.le_of_ble_eq_true rfl) (Nat.le_of_ble_eq_true rfl) (Nat.le_of_ble_eq_true rfl) ?_
  refine V.ifb_eq (tgt := 27) dX10_share_5 rfl (fun c5 => ?_) (fun c5 => ?_)
  · refine V.aload_n (i := 0) dX10_share_27 rfl rfl ?_
    refine V.iconst dX10_share_28 ic_1 ?_
    refine V.cv1D (ci := 10) dX10_share_29 lk_X10_82 (by decide) rfl hR.F.x (k_finding hR _ (by decide) ⟨rfl, rfl⟩) (by decide) (by decide) (Nat.le_of_ble_eq_true rfl) (Nat.le_of_ble_eq_true rfl) (Nat.le_of_ble_eq_true rfl) ?_
    refine V.iret dX10_share_32 (Nat.le_of_ble_eq_true rfl) (Nat.le_of_ble_eq_true rfl) ?_
    exact puF hp (if_neg (by first | omega | (rw [hz]; omega))) hR rfl
  · obtain ⟨j, hj, rfl⟩ := idxOf c5
    have hg : groupTop j ≤ 5 := (by unfold groupTop; split; omega; split <;> omega)
    have hz : groupTop (tn (nI j)) = groupTop j := by rw [tn_nI (by omega)]
    refine V.iload_n (i := 2) dX10_share_8 rfl rfl ?_
    refine V.iload_n (i := 1) dX10_share_9 rfl rfl ?_
    refine V.cs1D dX10_share_10 lk_X10_245 (k_groupsOf j hj ⟨rfl, rfl⟩) (by decide) (by decide) (Nat.le_of_ble_eq_true rfl) (Nat.le_of_ble_eq_true rfl) (Nat.le_of_ble_eq_true rfl) ?_
    refine V.cs2D dX10_share_13 lk_X10_96 (k_isBelowN _ (groupTop j + 1) (by omega) ⟨rfl, rfl⟩) (by decide) (by decide) (Nat.le_of_ble_eq_true rfl) (Nat.le_of_ble_eq_true rfl) (Nat.le_of_ble_eq_true rfl) ?_
    refine V.ifb_eq (tgt := 27) dX10_share_16 rfl (fun c16 => ?_) (fun c16 => ?_)
    · refine V.aload_n (i := 0) dX10_share_27 rfl rfl ?_
      refine V.iconst dX10_share_28 ic_1 ?_
      refine V.cv1D (ci := 10) dX10_share_29 lk_X10_82 (by decide) rfl hR.F.x (k_finding hR _ (by decide) ⟨rfl, rfl⟩) (by decide) (by decide) (Nat.le_of_ble_eq_true rfl) (Nat.le_of_ble_eq_true rfl) (Nat.le_of_ble_eq_true rfl) ?_
      refine V.iret dX10_share_32 (Nat.le_of_ble_eq_true rfl) (Nat.le_of_ble_eq_true rfl) ?_
      exact puF hp (if_neg (by first | omega | (rw [hz]; omega))) hR rfl
    · refine V.iload_n (i := 3) dX10_share_19 rfl rfl ?_
      refine V.iconst dX10_share_20 ic_3 ?_
      refine V.cs2D dX10_share_21 lk_X10_96 (k_isBelowN _ 3 (by decide) ⟨rfl, rfl⟩) (by decide) (by decide) (Nat.le_of_ble_eq_true rfl) (Nat.le_of_ble_eq_true rfl) (Nat.le_of_ble_eq_true rfl) ?_
      refine V.ifb_ne (tgt := 33) dX10_share_24 rfl (fun c24 => ?_) (fun c24 => ?_)
      · obtain ⟨i, hi, rfl⟩ := idxOf c24
        have hzz : s_share G (nI j) k (nI i) = (if i < 2 then nI (counted G j k (decide (i = 1))) else if j = 2 then nI 0 else b2 (darkB G j k = true), G) := by
          unfold s_share
          rw [tn_nI (by omega), tn_nI (by omega), if_pos (by omega)]
        have hd := TGdark (s := σ) hI (of := j) (k := k)
        refine V.aload_n (i := 0) dX10_share_33 rfl rfl ?_
        refine V.iload_n (i := 1) dX10_share_34 rfl rfl ?_
        refine V.iload_n (i := 2) dX10_share_35 rfl rfl ?_
        refine V.cv2v (ci := 10) dX10_share_36 lk_X10_248 (by decide) rfl hR.F.x (k_tallyUp hR hI j k hj (fun s h => ⟨rfl, h⟩)) (by decide) (by decide) (Nat.le_of_ble_eq_true rfl) (Nat.le_of_ble_eq_true rfl) (Nat.le_of_ble_eq_true rfl) (fun s36 h36 => ?_)
        have hR2 := hR.scr h36.1
        refine V.iload_n (i := 3) dX10_share_39 rfl rfl ?_
        refine V.if_ne (tgt := 51) dX10_share_40 rfl (fun c40 => ?_) (fun c40 => ?_)
        · rw [show (0 : Int32) = nI 0 from rfl, nI_eq (by omega) (by decide)] at c40
          refine V.iload_n (i := 3) dX10_share_51 rfl rfl ?_
          refine V.iconst dX10_share_52 ic_1 ?_
          refine V.icmp_ne (tgt := 64) dX10_share_53 rfl (fun c53 => ?_) (fun c53 => ?_)
          · rw [nI_eq (by omega) (by decide)] at c53
            refine V.aload_n (i := 0) dX10_share_64 rfl rfl ?_
            refine V.getS dX10_share_65 fl_X10_61 rfl hR2.F.x hR2.F.tally.1 ?_
            refine V.cv0D (ci := 6) dX10_share_68 lk_X10_255 (by decide) rfl hR2.F.tally.2 (k_isDark hR2.F.tally.2 h36.2 hd.1 hd.2.1 hd.2.2.1 hd.2.2.2 ⟨rfl, rfl⟩) (by decide) (by decide) (Nat.le_of_ble_eq_true rfl) (Nat.le_of_ble_eq_true rfl) (Nat.le_of_ble_eq_true rfl) ?_
            refine V.ifb_eq (tgt := 78) dX10_share_71 rfl (fun c71 => ?_) (fun c71 => ?_)
            · refine V.iconst dX10_share_78 ic_0 ?_
              refine V.iret dX10_share_79 (Nat.le_of_ble_eq_true rfl) (Nat.le_of_ble_eq_true rfl) ?_
              refine pv hp hzz ?_ hR2 h36.1.2
              rw [if_neg (by omega)]
              by_cases e : j = 2
              · refine Eq.trans ?_ (if_pos e).symm
                subst e
                first | rfl | (rw [cnt_two k false, cnt_two k true, dark_two] at c71; cases c71)
              · rw [if_neg e]; first | exact (b2T (p := darkB G j k = true) c71).symm | exact (b2F (p := darkB G j k = true) c71).symm
            · refine V.iconst dX10_share_74 ic_1 ?_
              refine V.goto (tgt := 79) dX10_share_75 rfl ?_
              refine V.iret dX10_share_79 (Nat.le_of_ble_eq_true rfl) (Nat.le_of_ble_eq_true rfl) ?_
              refine pv hp hzz ?_ hR2 h36.1.2
              rw [if_neg (by omega)]
              by_cases e : j = 2
              · refine Eq.trans ?_ (if_pos e).symm
                subst e
                first | rfl | (rw [cnt_two k false, cnt_two k true, dark_two] at c71; cases c71)
              · rw [if_neg e]; first | exact (b2T (p := darkB G j k = true) c71).symm | exact (b2F (p := darkB G j k = true) c71).symm
          · rw [nI_eq (by omega) (by decide)] at c53
            refine V.aload_n (i := 0) dX10_share_56 rfl rfl ?_
            refine V.getS dX10_share_57 fl_X10_61 rfl hR2.F.x hR2.F.tally.1 ?_
            refine V.geti dX10_share_60 fl_X10_253 rfl hR2.F.tally.2 ?_
            refine V.iret dX10_share_63 (Nat.le_of_ble_eq_true rfl) (Nat.le_of_ble_eq_true rfl) ?_
            exact pv hp hzz (by have e : i = 1 := (by omega); subst e; exact h36.2.2.1) hR2 h36.1.2
        · rw [show (0 : Int32) = nI 0 from rfl, nI_eq (by omega) (by decide)] at c40
          refine V.aload_n (i := 0) dX10_share_43 rfl rfl ?_
          refine V.getS dX10_share_44 fl_X10_61 rfl hR2.F.x hR2.F.tally.1 ?_
          refine V.geti dX10_share_47 fl_X10_251 rfl hR2.F.tally.2 ?_
          refine V.iret dX10_share_50 (Nat.le_of_ble_eq_true rfl) (Nat.le_of_ble_eq_true rfl) ?_
          exact pv hp hzz (by have e : i = 0 := (by omega); subst e; exact h36.2.1) hR2 h36.1.2
      · refine V.aload_n (i := 0) dX10_share_27 rfl rfl ?_
        refine V.iconst dX10_share_28 ic_1 ?_
        refine V.cv1D (ci := 10) dX10_share_29 lk_X10_82 (by decide) rfl hR.F.x (k_finding hR _ (by decide) ⟨rfl, rfl⟩) (by decide) (by decide) (Nat.le_of_ble_eq_true rfl) (Nat.le_of_ble_eq_true rfl) (Nat.le_of_ble_eq_true rfl) ?_
        refine V.iret dX10_share_32 (Nat.le_of_ble_eq_true rfl) (Nat.le_of_ble_eq_true rfl) ?_
        exact puF hp (if_neg (by first | omega | (rw [hz]; omega))) hR rfl
set_option maxRecDepth 100000 in
theorem k_holdsInFleet (hR : Rp σ x P G) (hI : Inv G) (i : Nat) (hi : i < nSh G) (hp : post (some (.int (nI (holdsF G i)))) σ) : MX10_holdsInFleet E 3 0 0 [.ref x, .ref (P 1 i)] σ post := by
  refine MA.of RX10 "holdsInFleet" [some (.ref x), some (.ref (P 1 i)), none, none, none, none, none, none] rfl rfl rfl (catAll rfl) (Nat.le_of_ble_eq_true rfl) rfl (fun X => ?_)
  have hn := hI.lkN
  have h16 := hI.shN.2
  have hho := hadO hI hi (G 0 0) (nCh G) (Nat.le_refl _)
  change hadOn G i 2 (G 0 0) = nI (tn (hadOn G i 2 (G 0 0))) ∧ tn (hadOn G i 2 (G 0 0)) < 10 at hho
  have hfl : fltOf G i < 65536 := Nat.lt_of_lt_of_le (flb_lt _ _) (pow_le16 h16)
  have loop : ∀ m l, m + l = nLk G → ∀ v, v = nI (fb_ct (hfB G i) l) → ∀ l5 l6 l7, V E X RX10 "holdsInFleet" cX10_holdsInFleet 8 (some .int) 3 0 0 (QM E X post 0 0) σ 0 0 23 [some (.ref x), some (.ref (P 1 i)), some (.int (nI (fltOf G i))), some (.int v), some (.int (nI l)), l5, l6, l7] [] := by
    intro m
    induction m with
    | zero =>
      intro l hl v hv l5 l6 l7
      refine V.iload (i := 4) dX10_holdsInFleet_23 rfl ?_
      refine V.aload_n (i := 0) dX10_holdsInFleet_25 rfl rfl ?_
      refine V.geti dX10_holdsInFleet_26 fl_X10_210 rfl hR.F.x ?_
      refine V.icmp_geT (tgt := 114) dX10_holdsInFleet_29 rfl (lpT (hR.S.lkN.trans hn.1) (by omega) (by omega)) ?_
      refine V.iload_n (i := 3) dX10_holdsInFleet_114 rfl rfl ?_
      refine V.iret dX10_holdsInFleet_115 (Nat.le_of_ble_eq_true rfl) (Nat.le_of_ble_eq_true rfl) ?_
      exact i_post (by rw [hv, holdsF, show l = nLk G by omega]) hp
    | succ m ih =>
      intro l hl v hv l5 l6 l7
      have hl2 : l < nLk G := by omega
      have hlk := hI.lk l hl2
      have hca := hI.ca _ hlk.2
      have hB : hfB G i l = (decide (gN G 14 (gN G 27 l) ≠ i ∧ ¬ G 31 l = 0) && (fltOf G i).testBit (gN G 14 (gN G 27 l)) && inLast G 365 l) := rfl
      have eF : ¬ hfB G i l = true → nI (fb_ct (hfB G i) l) = nI (fb_ct (hfB G i) (l + 1)) := fun h => congrArg nI (fb_ctF1 h)
      have eT : hfB G i l = true → nI (fb_ct (hfB G i) l) + Int32.ofInt 1 = nI (fb_ct (hfB G i) (l + 1)) := fun h => by rw [inc1, fb_ctT1 h]
      refine V.iload (i := 4) dX10_holdsInFleet_23 rfl ?_
      refine V.aload_n (i := 0) dX10_holdsInFleet_25 rfl rfl ?_
      refine V.geti dX10_holdsInFleet_26 fl_X10_210 rfl hR.F.x ?_
      refine V.icmp_geF (tgt := 114) dX10_holdsInFleet_29 rfl (lpF (hR.S.lkN.trans hn.1) (by omega) (by omega)) ?_
      refine V.aload_n (i := 0) dX10_holdsInFleet_32 rfl rfl ?_
      refine V.getS dX10_holdsInFleet_33 fl_X10_30 rfl hR.F.x hR.F.looks.1 ?_
      refine V.iload (i := 4) dX10_holdsInFleet_36 rfl ?_
      refine V.aaldS (t := 34) dX10_holdsInFleet_38 hR.F.looks.2 (by decide) (by decide) rfl (show _ < 60 from (by omega)) (by decide) (hR.L.at l hl2).1 ?_
      refine V.astore5 (by decide) dX10_holdsInFleet_39 ?_
      refine V.aload (i := 5) dX10_holdsInFleet_41 rfl ?_
      refine V.getS dX10_holdsInFleet_43 fl_X10_230 rfl (hR.L.at l hl2).2 (hR.L.call l hl2) ?_
      refine V.getS dX10_holdsInFleet_46 fl_X10_164 rfl (hR.C.at _ hlk.2).2 (hR.C.ship _ hlk.2) ?_
      refine V.astore6 (by decide) dX10_holdsInFleet_49 ?_
      refine V.aload (i := 5) dX10_holdsInFleet_51 rfl ?_
      refine V.geti dX10_holdsInFleet_53 fl_X10_242 rfl (hR.L.at l hl2).2 ?_
      refine V.as _ (hR.L.hold l hl2) ?_
      refine V.if_eq (tgt := 84) dX10_holdsInFleet_56 rfl (fun c56 => ?_) (fun c56 => ?_)
      · have hf : ¬ hfB G i l = true := by rw [hB, decide_eq_false (fun z => z.2 c56)]; simp
        refine V.iconst dX10_holdsInFleet_84 ic_0 ?_
        refine V.istore7 (by decide) dX10_holdsInFleet_85 ?_
        refine V.iload (i := 7) dX10_holdsInFleet_87 rfl ?_
        refine V.if_eqT (tgt := 108) dX10_holdsInFleet_89 rfl rfl ?_
        refine V.iinc4 (by decide) dX10_holdsInFleet_108 (inc1 _) ?_
        refine V.goto (tgt := 23) dX10_holdsInFleet_111 rfl ?_
        exact ih (l + 1) (by omega) _ (by rw [hv]; exact eF hf) _ _ _
      · refine V.aload_n (i := 0) dX10_holdsInFleet_59 rfl rfl ?_
        refine V.sipush dX10_holdsInFleet_60 sc_365 ?_
        refine V.aload (i := 5) dX10_holdsInFleet_63 rfl ?_
        refine V.geti dX10_holdsInFleet_65 fl_X10_236 rfl (hR.L.at l hl2).2 ?_
        refine V.as _ (hR.L.on_ l hl2) ?_
        refine V.cv2D (ci := 10) dX10_holdsInFleet_68 lk_X10_344 (by decide) rfl hR.F.x (k_isInLast hR hI 365 l hl2 (by decide) ⟨rfl, rfl⟩) (by decide) (by decide) (Nat.le_of_ble_eq_true rfl) (Nat.le_of_ble_eq_true rfl) (Nat.le_of_ble_eq_true rfl) ?_
        refine V.ifb_eq (tgt := 84) dX10_holdsInFleet_71 rfl (fun c71 => ?_) (fun c71 => ?_)
        · have hf : ¬ hfB G i l = true := by rw [hB, show inLast G 365 l = false by simpa using c71]; simp
          refine V.iconst dX10_holdsInFleet_84 ic_0 ?_
          refine V.istore7 (by decide) dX10_holdsInFleet_85 ?_
          refine V.iload (i := 7) dX10_holdsInFleet_87 rfl ?_
          refine V.if_eqT (tgt := 108) dX10_holdsInFleet_89 rfl rfl ?_
          refine V.iinc4 (by decide) dX10_holdsInFleet_108 (inc1 _) ?_
          refine V.goto (tgt := 23) dX10_holdsInFleet_111 rfl ?_
          exact ih (l + 1) (by omega) _ (by rw [hv]; exact eF hf) _ _ _
        · refine V.aload (i := 6) dX10_holdsInFleet_74 rfl ?_
          refine V.aload_n (i := 1) dX10_holdsInFleet_76 rfl rfl ?_
          refine V.acmp_eq (tgt := 84) dX10_holdsInFleet_77 rfl (fun c77 => ?_) (fun c77 => ?_)
          · have hf : ¬ hfB G i l = true := by rw [hB, decide_eq_false (fun z => z.1 (P1_inj hR hI hca.2 hi c77))]; simp
            refine V.iconst dX10_holdsInFleet_84 ic_0 ?_
            refine V.istore7 (by decide) dX10_holdsInFleet_85 ?_
            refine V.iload (i := 7) dX10_holdsInFleet_87 rfl ?_
            refine V.if_eqT (tgt := 108) dX10_holdsInFleet_89 rfl rfl ?_
            refine V.iinc4 (by decide) dX10_holdsInFleet_108 (inc1 _) ?_
            refine V.goto (tgt := 23) dX10_holdsInFleet_111 rfl ?_
            exact ih (l + 1) (by omega) _ (by rw [hv]; exact eF hf) _ _ _
          · refine V.iconst dX10_holdsInFleet_80 ic_1 ?_
            refine V.goto (tgt := 85) dX10_holdsInFleet_81 rfl ?_
            refine V.istore7 (by decide) dX10_holdsInFleet_85 ?_
            refine V.iload (i := 7) dX10_holdsInFleet_87 rfl ?_
            refine V.if_eqF (tgt := 108) dX10_holdsInFleet_89 rfl (by decide) ?_
            refine V.iload_n (i := 2) dX10_holdsInFleet_92 rfl rfl ?_
            refine V.aload (i := 6) dX10_holdsInFleet_93 rfl ?_
            refine V.geti dX10_holdsInFleet_95 fl_X10_168 rfl (hR.H.at _ hca.2).2 ?_
            refine V.as _ (hR.H.no _ hca.2) ?_
            refine V.ishr dX10_holdsInFleet_98 ?_
            refine V.iconst dX10_holdsInFleet_99 ic_1 ?_
            refine V.iand dX10_holdsInFleet_100 ?_
            refine V.as _ (testBit_and1 (by omega) (by omega)) ?_
            refine V.iconst dX10_holdsInFleet_101 ic_1 ?_
            refine V.icmp_ne (tgt := 108) dX10_holdsInFleet_102 rfl (fun c102 => ?_) (fun c102 => ?_)
            · rw [nI_eq (by split <;> decide) (by decide)] at c102
              have hf : ¬ hfB G i l = true := (by
                rw [hB]
                have q : (fltOf G i).testBit (gN G 14 (gN G 27 l)) = false := by
                  cases q : (fltOf G i).testBit (gN G 14 (gN G 27 l))
                  · rfl
                  · rw [q] at c102; exact absurd rfl c102
                rw [q]; simp)
              refine V.iinc4 (by decide) dX10_holdsInFleet_108 (inc1 _) ?_
              refine V.goto (tgt := 23) dX10_holdsInFleet_111 rfl ?_
              first | exact ih (l + 1) (by omega) _ rfl _ _ _ | exact ih (l + 1) (by omega) _ (by rw [hv]; exact eF hf) _ _ _
            · rw [nI_eq (by split <;> decide) (by decide)] at c102
              refine V.iinc3 (by decide) dX10_holdsInFleet_105 ((congrArg (· + Int32.ofInt 1) hv).trans (eT (by
                rw [hB]
                have q : (fltOf G i).testBit (gN G 14 (gN G 27 l)) = true := Classical.byContradiction (fun z => by rw [if_neg z] at c102; exact absurd c102 (by decide))
                rw [q, show inLast G 365 l = true from c71, decide_eq_true ⟨fun e => c77 (by rw [e]), c56⟩]; rfl))) ?_
              refine V.iinc4 (by decide) dX10_holdsInFleet_108 (inc1 _) ?_
              refine V.goto (tgt := 23) dX10_holdsInFleet_111 rfl ?_
              first | exact ih (l + 1) (by omega) _ rfl _ _ _ | exact ih (l + 1) (by omega) _ (by rw [hv]; exact eF hf) _ _ _
  refine V.aload_n (i := 0) dX10_holdsInFleet_0 rfl rfl ?_
  refine V.aload_n (i := 1) dX10_holdsInFleet_1 rfl rfl ?_
  refine V.iconst dX10_holdsInFleet_2 ic_2 ?_
  refine V.aload_n (i := 0) dX10_holdsInFleet_3 rfl rfl ?_
  refine V.geti dX10_holdsInFleet_4 fl_X10_79 rfl hR.F.x ?_
  refine V.as _ hR.S.day ?_
  refine V.cv2D (ci := 5) dX10_holdsInFleet_7 lk_X10_115 (by decide) rfl (hR.H.at i hi).2 (k_traitOn hR i 2 _ hi (by decide) ⟨rfl, rfl⟩) (by decide) (by decide) (Nat.le_of_ble_eq_true rfl) (Nat.le_of_ble_eq_true rfl) (Nat.le_of_ble_eq_true rfl) ?_
  refine V.as _ hho.1 ?_
  refine V.aload_n (i := 0) dX10_holdsInFleet_10 rfl rfl ?_
  refine V.geti dX10_holdsInFleet_11 fl_X10_79 rfl hR.F.x ?_
  refine V.as _ hR.S.day ?_
  refine V.cv2D (ci := 10) dX10_holdsInFleet_14 lk_X10_130 (by decide) rfl hR.F.x (k_fleetBits hR hI _ _ hho.2 ⟨rfl, rfl⟩) (by decide) (by decide) (Nat.le_of_ble_eq_true rfl) (Nat.le_of_ble_eq_true rfl) (Nat.le_of_ble_eq_true rfl) ?_
  refine V.istore_n2 (by decide) dX10_holdsInFleet_17 ?_
  refine V.iconst dX10_holdsInFleet_18 ic_0 ?_
  refine V.istore_n3 (by decide) dX10_holdsInFleet_19 ?_
  refine V.iconst dX10_holdsInFleet_20 ic_0 ?_
  refine V.istore4 (by decide) dX10_holdsInFleet_21 ?_
  exact loop (nLk G) 0 (by omega) _ rfl _ _ _
theorem last_lat {i : Nat} (hI : Inv G) : ∀ l, l ≤ nLk G → ((lastL G i l).toInt < 0 → latK G i l = G 4 i) ∧ (¬ (lastL G i l).toInt < 0 → latK G i l = lastL G i l)
  | 0, _ => ⟨fun _ => rfl, fun h => absurd (show ((-1 : Int32)).toInt < 0 by decide) h⟩
  | l + 1, hl => by
    have ih := last_lat (i := i) hI l (by omega)
    have hd := hI.lkD l (by omega)
    unfold lastL latK
    by_cases q : shipOf G l = i
    · rw [if_pos q, if_pos q]
      exact ⟨fun h => absurd h (by omega), fun _ => rfl⟩
    · rw [if_neg q, if_neg q]
      exact ih
set_option maxRecDepth 100000 in
theorem k_riskOf (hR : Rp σ x P G) (hI : Inv G) (i : Nat) (hi : i < nSh G) (hp : ∀ s, scr σ s → post (some (.int (nI (riskN G i)))) s) : MX10_riskOf E 5 0 0 [.ref x, .ref (P 1 i)] σ post := by
  refine MA.of RX10 "riskOf" [some (.ref x), some (.ref (P 1 i)), none, none] rfl rfl rfl (catAll rfl) (Nat.le_of_ble_eq_true rfl) rfl (fun X => ?_)
  have hd := hI.day
  have hb := hI.built i hi
  have hy := yrs hI hi
  have hk := hI.kind i hi
  have h60 := hI.lkN.2
  have hh : holdsF G i ≤ 60 := Nat.le_trans (fb_ct_le _ _) h60
  have hll := last_lat (i := i) hI (nLk G) (Nat.le_refl _)
  have hlat := latK_in hI hi (nLk G) (Nat.le_refl _)
  let r0 : Nat := 1 + (if 5475 ≤ (G 0 0).toInt - (G 4 i).toInt then 2 else 0)
  let r1 : Nat := r0 + 3 * (if darkB G 0 (hadOn G i 1 (G 0 0)) then 1 else 0)
  have J85 : ∀ s, scr σ s → ∀ y l3, y = latK G i (nLk G) → V E X RX10 "riskOf" cX10_riskOf 4 (some .int) 5 0 0 (QM E X post 0 0) s 0 0 85 [some (.ref x), some (.ref (P 1 i)), some (.int (nI (riskB G i + min 4 (holdsF G i)))), l3] [.int y] := by
    intro s hs y l3 he
    have hR2 := hR.scr hs
    refine V.istore_n3 (by decide) dX10_riskOf_85 ?_
    refine V.iload_n (i := 2) dX10_riskOf_86 rfl rfl ?_
    refine V.iconst dX10_riskOf_87 ic_5 ?_
    refine V.aload_n (i := 0) dX10_riskOf_88 rfl rfl ?_
    refine V.geti dX10_riskOf_89 fl_X10_79 rfl hR2.F.x ?_
    refine V.as _ hR2.S.day ?_
    refine V.iload_n (i := 3) dX10_riskOf_92 rfl rfl ?_
    refine V.isub dX10_riskOf_93 ?_
    refine V.sipush dX10_riskOf_94 sc_365 ?_
    refine V.idiv dX10_riskOf_97 (by decide) ?_
    refine V.as (nI (yearsOf G i)) (by rw [he]; exact hy.1) ?_
    refine V.mmin 5 (yearsOf G i) (by decide) (by omega) dX10_riskOf_98 lk_X10_367 (Nat.le_of_ble_eq_true rfl) (by decide) (by decide) (by decide) ?_
    refine V.iadd dX10_riskOf_101 ?_
    refine V.as _ (nI_add _ _) ?_
    refine V.istore_n2 (by decide) dX10_riskOf_102 ?_
    refine V.aload_n (i := 1) dX10_riskOf_103 rfl rfl ?_
    refine V.geti dX10_riskOf_104 fl_X10_100 rfl (hR2.H.at i hi).2 ?_
    refine V.as _ ((hR2.H.kind i hi).trans hk.1) ?_
    refine V.iconst dX10_riskOf_107 ic_1 ?_
    refine V.cs2D dX10_riskOf_108 lk_X10_103 (k_isUnder _ _ hk.2 ⟨rfl, rfl⟩) (by decide) (by decide) (Nat.le_of_ble_eq_true rfl) (Nat.le_of_ble_eq_true rfl) (Nat.le_of_ble_eq_true rfl) ?_
    refine V.ifb_eq (tgt := 120) dX10_riskOf_111 rfl (fun c111 => ?_) (fun c111 => ?_)
    · have hq : ¬ (G 2 i = nI 1 ∨ G 2 i = nI 2) := (by rw [hk.1]; rintro (q | q); exact c111 (Or.inr (Or.inl q.symm)); exact c111 (Or.inr (Or.inr ⟨rfl, q⟩)))
      refine V.iload_n (i := 2) dX10_riskOf_120 rfl rfl ?_
      refine V.iret dX10_riskOf_121 (Nat.le_of_ble_eq_true rfl) (Nat.le_of_ble_eq_true rfl) ?_
      refine i_post ?_ (hp _ hs)
      unfold riskN
      first | (rw [if_pos hq, pk_mul]) | (rw [if_neg hq, Nat.one_mul])
    · have hq : G 2 i = nI 1 ∨ G 2 i = nI 2 := (by rw [hk.1]; rcases c111 with q | q | q; exact absurd q (by decide); exact Or.inl q.symm; exact Or.inr q.2)
      refine V.iconst dX10_riskOf_114 ic_2 ?_
      refine V.iload_n (i := 2) dX10_riskOf_115 rfl rfl ?_
      refine V.imul dX10_riskOf_116 ?_
      refine V.goto (tgt := 121) dX10_riskOf_117 rfl ?_
      refine V.iret dX10_riskOf_121 (Nat.le_of_ble_eq_true rfl) (Nat.le_of_ble_eq_true rfl) ?_
      refine i_post ?_ (hp _ hs)
      unfold riskN
      first | (rw [if_pos hq, pk_mul]) | (rw [if_neg hq, Nat.one_mul])
  have J55 : ∀ s, scr σ s → ∀ l3, V E X RX10 "riskOf" cX10_riskOf 4 (some .int) 5 0 0 (QM E X post 0 0) s 0 0 55 [some (.ref x), some (.ref (P 1 i)), some (.int (nI (riskB G i))), l3] [] := by
    intro s hs l3
    have hR2 := hR.scr hs
    refine V.iload_n (i := 2) dX10_riskOf_55 rfl rfl ?_
    refine V.iconst dX10_riskOf_56 ic_4 ?_
    refine V.aload_n (i := 0) dX10_riskOf_57 rfl rfl ?_
    refine V.aload_n (i := 1) dX10_riskOf_58 rfl rfl ?_
    refine V.cv1D (ci := 10) dX10_riskOf_59 lk_X10_364 (by decide) rfl hR2.F.x (k_holdsInFleet hR2 hI i hi ⟨rfl, rfl⟩) (by decide) (by decide) (Nat.le_of_ble_eq_true rfl) (Nat.le_of_ble_eq_true rfl) (Nat.le_of_ble_eq_true rfl) ?_
    refine V.mmin 4 (holdsF G i) (by decide) (by omega) dX10_riskOf_62 lk_X10_367 (Nat.le_of_ble_eq_true rfl) (by decide) (by decide) (by decide) ?_
    refine V.iadd dX10_riskOf_65 ?_
    refine V.as _ (nI_add _ _) ?_
    refine V.istore_n2 (by decide) dX10_riskOf_66 ?_
    refine V.aload_n (i := 1) dX10_riskOf_67 rfl rfl ?_
    refine V.geti dX10_riskOf_68 fl_X10_219 rfl (hR2.H.at i hi).2 ?_
    refine V.as _ (hR2.H.last i hi) ?_
    refine V.if_lt (tgt := 81) dX10_riskOf_71 rfl (fun c71 => ?_) (fun c71 => ?_)
    · rw [lt0] at c71
      refine V.aload_n (i := 1) dX10_riskOf_81 rfl rfl ?_
      refine V.geti dX10_riskOf_82 fl_X10_358 rfl (hR2.H.at i hi).2 ?_
      refine V.as _ (hR2.H.built i hi) ?_
      first | exact J85 s hs _ _ (hll.1 c71).symm | exact J85 s hs _ _ (hll.2 c71).symm
    · rw [lt0] at c71
      refine V.aload_n (i := 1) dX10_riskOf_74 rfl rfl ?_
      refine V.geti dX10_riskOf_75 fl_X10_219 rfl (hR2.H.at i hi).2 ?_
      refine V.as _ (hR2.H.last i hi) ?_
      refine V.goto (tgt := 85) dX10_riskOf_78 rfl ?_
      first | exact J85 s hs _ _ (hll.1 c71).symm | exact J85 s hs _ _ (hll.2 c71).symm
  have J40 : ∀ s, scr σ s → ∀ l3, V E X RX10 "riskOf" cX10_riskOf 4 (some .int) 5 0 0 (QM E X post 0 0) s 0 0 40 [some (.ref x), some (.ref (P 1 i)), some (.int (nI r1)), l3] [] := by
    intro s hs l3
    have hR2 := hR.scr hs
    refine V.aload_n (i := 0) dX10_riskOf_40 rfl rfl ?_
    refine V.iconst dX10_riskOf_41 ic_1 ?_
    refine V.aload_n (i := 1) dX10_riskOf_42 rfl rfl ?_
    refine V.geti dX10_riskOf_43 fl_X10_355 rfl (hR2.H.at i hi).2 ?_
    refine V.as _ (hR2.H.soc i hi) ?_
    refine V.cv2s (ci := 10) dX10_riskOf_46 lk_X10_361 (by decide) rfl hR2.F.x (k_isDarkGroup hR2 hI 1 _ (by decide) (fun s h => ⟨rfl, h⟩)) (by decide) (by decide) (Nat.le_of_ble_eq_true rfl) (Nat.le_of_ble_eq_true rfl) (Nat.le_of_ble_eq_true rfl) (fun s46 h46 => ?_)
    refine V.ifb_eq (tgt := 55) dX10_riskOf_49 rfl (fun c49 => ?_) (fun c49 => ?_)
    · rw [show nI r1 = nI (riskB G i) from by congr 1; unfold riskB; rw [if_neg c49]; rfl]
      exact J55 s46 (hs.trans h46) _
    · refine V.iinc2 (by decide) dX10_riskOf_52 (show nI r1 + Int32.ofInt 2 = nI (riskB G i) from by rw [show Int32.ofInt 2 = nI 2 from rfl, nI_add]; congr 1; unfold riskB; rw [if_pos c49]) ?_
      exact J55 s46 (hs.trans h46) _
  have J20 : ∀ l3, V E X RX10 "riskOf" cX10_riskOf 4 (some .int) 5 0 0 (QM E X post 0 0) σ 0 0 20 [some (.ref x), some (.ref (P 1 i)), some (.int (nI r0)), l3] [] := by
    intro l3
    refine V.aload_n (i := 0) dX10_riskOf_20 rfl rfl ?_
    refine V.iconst dX10_riskOf_21 ic_0 ?_
    refine V.aload_n (i := 1) dX10_riskOf_22 rfl rfl ?_
    refine V.iconst dX10_riskOf_23 ic_1 ?_
    refine V.aload_n (i := 0) dX10_riskOf_24 rfl rfl ?_
    refine V.geti dX10_riskOf_25 fl_X10_79 rfl hR.F.x ?_
    refine V.as _ hR.S.day ?_
    refine V.cv2D (ci := 5) dX10_riskOf_28 lk_X10_115 (by decide) rfl (hR.H.at i hi).2 (k_traitOn hR i 1 _ hi (by decide) ⟨rfl, rfl⟩) (by decide) (by decide) (Nat.le_of_ble_eq_true rfl) (Nat.le_of_ble_eq_true rfl) (Nat.le_of_ble_eq_true rfl) ?_
    refine V.cv2s (ci := 10) dX10_riskOf_31 lk_X10_361 (by decide) rfl hR.F.x (k_isDarkGroup hR hI 0 _ (by decide) (fun s h => ⟨rfl, h⟩)) (by decide) (by decide) (Nat.le_of_ble_eq_true rfl) (Nat.le_of_ble_eq_true rfl) (Nat.le_of_ble_eq_true rfl) (fun s31 h31 => ?_)
    refine V.ifb_eq (tgt := 40) dX10_riskOf_34 rfl (fun c34 => ?_) (fun c34 => ?_)
    · rw [show nI r0 = nI r1 from by congr 1; show r0 = r0 + _; rw [if_neg c34]; rfl]
      exact J40 s31 h31 _
    · refine V.iinc2 (by decide) dX10_riskOf_37 (show nI r0 + Int32.ofInt 3 = nI r1 from by rw [show Int32.ofInt 3 = nI 3 from rfl, nI_add]; congr 1; show r0 + 3 = r0 + _; rw [if_pos c34]) ?_
      exact J40 s31 h31 _
  refine V.iconst dX10_riskOf_0 ic_1 ?_
  refine V.istore_n2 (by decide) dX10_riskOf_1 ?_
  refine V.aload_n (i := 0) dX10_riskOf_2 rfl rfl ?_
  refine V.geti dX10_riskOf_3 fl_X10_79 rfl hR.F.x ?_
  refine V.as _ hR.S.day ?_
  refine V.aload_n (i := 1) dX10_riskOf_6 rfl rfl ?_
  refine V.geti dX10_riskOf_7 fl_X10_358 rfl (hR.H.at i hi).2 ?_
  refine V.as _ (hR.H.built i hi) ?_
  refine V.isub dX10_riskOf_10 ?_
  refine V.sipush dX10_riskOf_11 sc_5475 ?_
  refine V.icmp_lt (tgt := 20) dX10_riskOf_14 rfl (fun c14 => ?_) (fun c14 => ?_)
  · rw [fa_lt, subL hd.1 hd.2 hb.1 (by omega), toI _ (by decide)] at c14
    have e0 : nI 1 = nI r0 := (by show nI 1 = nI (1 + _); rw [if_neg (by omega)]); rw [e0]
    exact J20 _
  · rw [fa_lt, subL hd.1 hd.2 hb.1 (by omega), toI _ (by decide)] at c14
    refine V.iinc2 (by decide) dX10_riskOf_17 (show nI 1 + Int32.ofInt 2 = nI r0 from by show nI 3 = nI (1 + _); rw [if_pos (by omega)]) ?_
    exact J20 _
set_option maxRecDepth 100000 in
theorem k_risk (hR : Rp σ x P G) (hI : Inv G) (s : Int32) (hp : PU x σ (s_risk G s) post) : MX10_risk E 6 0 0 [.ref x, .int s] σ post := by
  refine MA.of RX10 "risk" [some (.ref x), some (.int s), none] rfl rfl rfl (catAll rfl) (Nat.le_of_ble_eq_true rfl) rfl (fun X => ?_)
  have h16 := hI.shN.2
  by_cases hs : 0 ≤ s.toInt ∧ s.toInt < nSh G
  · obtain ⟨i, hi, rfl⟩ := idxOf hs
    refine V.aload_n (i := 0) dX10_risk_0 rfl rfl ?_
    refine V.iload_n (i := 1) dX10_risk_1 rfl rfl ?_
    refine V.cv1D (ci := 10) dX10_risk_2 lk_X10_92 (by decide) rfl hR.F.x (k_shipAtY hR hI i hi ⟨rfl, rfl⟩) (by decide) (by decide) (Nat.le_of_ble_eq_true rfl) (Nat.le_of_ble_eq_true rfl) (Nat.le_of_ble_eq_true rfl) ?_
    refine V.astore_n2 (by decide) dX10_risk_5 ?_
    refine V.aload_n (i := 2) dX10_risk_6 rfl rfl ?_
    refine V.ifnonnull (tgt := 18) dX10_risk_7 rfl ?_
    refine V.aload_n (i := 0) dX10_risk_18 rfl rfl ?_
    refine V.aload_n (i := 2) dX10_risk_19 rfl rfl ?_
    refine V.cv1s (ci := 10) dX10_risk_20 lk_X10_258 (by decide) rfl hR.F.x (k_riskOf hR hI i hi (fun s h => ⟨rfl, h⟩)) (by decide) (by decide) (Nat.le_of_ble_eq_true rfl) (Nat.le_of_ble_eq_true rfl) (Nat.le_of_ble_eq_true rfl) (fun s20 h20 => ?_)
    refine V.iret dX10_risk_23 (Nat.le_of_ble_eq_true rfl) (Nat.le_of_ble_eq_true rfl) ?_
    exact pu hp (by unfold s_risk; rw [tn_nI (by omega), if_pos (by omega)]) (hR.scr h20) h20.2
  · skip
    refine V.aload_n (i := 0) dX10_risk_0 rfl rfl ?_
    refine V.iload_n (i := 1) dX10_risk_1 rfl rfl ?_
    refine V.cv1D (ci := 10) dX10_risk_2 lk_X10_92 (by decide) rfl hR.F.x (k_shipAtN hR hI s hs ⟨rfl, rfl⟩) (by decide) (by decide) (Nat.le_of_ble_eq_true rfl) (Nat.le_of_ble_eq_true rfl) (Nat.le_of_ble_eq_true rfl) ?_
    refine V.astore_n2N (by decide) dX10_risk_5 ?_
    refine V.aload_nN (i := 2) dX10_risk_6 rfl rfl ?_
    refine V.ifnonnullN dX10_risk_7 ?_
    refine V.aload_n (i := 0) dX10_risk_10 rfl rfl ?_
    refine V.iconst dX10_risk_11 ic_1 ?_
    refine V.cv1D (ci := 10) dX10_risk_12 lk_X10_82 (by decide) rfl hR.F.x (k_finding hR _ (by decide) ⟨rfl, rfl⟩) (by decide) (by decide) (Nat.le_of_ble_eq_true rfl) (Nat.le_of_ble_eq_true rfl) (Nat.le_of_ble_eq_true rfl) ?_
    refine V.goto (tgt := 23) dX10_risk_15 rfl ?_
    refine V.iret dX10_risk_23 (Nat.le_of_ble_eq_true rfl) (Nat.le_of_ble_eq_true rfl) ?_
    exact puF hp (if_neg hs) hR rfl
end RISK

