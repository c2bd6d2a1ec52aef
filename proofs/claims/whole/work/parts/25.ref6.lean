/-! ===== the model: looks ===== -/
theorem b2N {p : Prop} [Decidable p] : b2 p = nI (if p then 1 else 0) := by
  unfold b2
  by_cases h : p
  · rw [if_pos h, if_pos h]; rfl
  · rw [if_neg h, if_neg h]; rfl
theorem subL {x y : Int32} (h1 : 0 ≤ x.toInt) (h2 : x.toInt ≤ 9999) (h3 : 0 ≤ y.toInt) (h4 : y.toInt ≤ 1000000) : (x - y).toInt = x.toInt - y.toInt := fb_subI (by omega) (by omega)
theorem ne01 {x : Int32} (h : x = 0 ∨ x = 1) : (¬ x = 0) ↔ x = 1 := by rcases h with rfl | rfl <;> simp
section REF6
variable {E : VE} {σ : Sg} {G : GS} {post : Option Value → Sg → Prop}
set_option maxRecDepth 100000 in
theorem c_wouldHold (hE : eF E = true) (i : Nat) (f : Int32) (hi : i < 16) (hk : G 2 i = nI (gN G 2 i) ∧ gN G 2 i < 4) (hI : Inv G) (hp : post (some (.int (b2 (hldB G i f = true)))) (wG σ G)) : MX11_wouldHold E 2 0 0 [.ref (eQ E 48), .int (nI i), .int f] (wG σ G) post := by
  refine MA.of RX11 "wouldHold" [some (.ref (eQ E 48)), some (.int (nI i)), some (.int f), none, none, none] rfl rfl rfl (catAll rfl) (Nat.le_of_ble_eq_true rfl) rfl (fun X => ?_)
  have hn := hI.trN
  have hge := optI_ge (frc G (G 0 0)) (fun c h => by have := frcK_lt _ _ _ _ h; omega)
  have loop : ∀ t, frc G (G 0 0) = some t → ∀ m k, k + m = 10 → ∀ v, v = sumW G t f k → V E X RX11 "wouldHold" cX11_wouldHold 6 (some .boolean) 2 0 0 (QM E X post 0 0) (wG σ G) 0 0 21 [some (.ref (eQ E 48)), some (.int (nI i)), some (.int f), some (.int (nI t)), some (.int v), some (.int (nI k))] [] := by
    intro t ht m
    have ht6 := frcK_lt _ _ _ _ ht
    have hz : hldB G i f = decide (¬ (G 25 (4 * t + gN G 2 i) &&& f) = 0 ∨ G 23 t ≤ sumW G t f 10) := by unfold hldB; rw [ht]
    rw [hz] at hp
    induction m with
    | zero =>
      intro k hk4 v hv
      rw [show k = 10 by omega] at hv
      refine V.iload (i := 5) dX11_wouldHold_21 rfl ?_
      refine V.bipush dX11_wouldHold_23 bc_10 ?_
      refine V.icmp_geT (tgt := 58) dX11_wouldHold_25 rfl (nI_le (by omega) (by omega)) ?_
      refine V.aload_n (i := 0) dX11_wouldHold_58 rfl rfl ?_
      refine V.mgeta hE dX11_wouldHold_59 fl_X11_65 rfl ?_
      refine V.iconst dX11_wouldHold_62 ic_4 ?_
      refine V.iload_n (i := 3) dX11_wouldHold_63 rfl rfl ?_
      refine V.imul dX11_wouldHold_64 ?_
      refine V.aload_n (i := 0) dX11_wouldHold_65 rfl rfl ?_
      refine V.mgeta hE dX11_wouldHold_66 fl_X11_7 rfl ?_
      refine V.iload_n (i := 1) dX11_wouldHold_69 rfl rfl ?_
      refine V.miald hE dX11_wouldHold_70 rfl rfl rfl (show _ < 16 from (by omega)) ?_
      refine V.iadd dX11_wouldHold_71 ?_
      refine V.as (nI (4 * t + gN G 2 i)) (by rw [hk.1, pk_mul, nI_add]) ?_
      refine V.miald hE dX11_wouldHold_72 rfl rfl rfl (show _ < 24 from (by omega)) ?_
      refine V.iload_n (i := 2) dX11_wouldHold_73 rfl rfl ?_
      refine V.iand dX11_wouldHold_74 ?_
      refine V.if_ne (tgt := 89) dX11_wouldHold_75 rfl (fun c75 => ?_) (fun c75 => ?_)
      · refine V.iconst dX11_wouldHold_89 ic_1 ?_
        refine V.goto (tgt := 94) dX11_wouldHold_90 rfl ?_
        refine V.zret dX11_wouldHold_94 (by decide) (Nat.le_of_ble_eq_true rfl) (Nat.le_of_ble_eq_true rfl) ?_
        first | exact b2_ret1 (decide_eq_true (Or.inl c75)) hp | exact b2_ret1 (decide_eq_true (Or.inr (by rw [← hv]; exact Int32.not_lt.mp c86))) hp | exact b2_ret0 (fun z => (of_decide_eq_true z).elim (fun q => q c75) (fun q => absurd c86 (Int32.not_lt.mpr (by rw [hv]; exact q)))) hp
      · refine V.iload (i := 4) dX11_wouldHold_78 rfl ?_
        refine V.aload_n (i := 0) dX11_wouldHold_80 rfl rfl ?_
        refine V.mgeta hE dX11_wouldHold_81 fl_X11_59 rfl ?_
        refine V.iload_n (i := 3) dX11_wouldHold_84 rfl rfl ?_
        refine V.miald hE dX11_wouldHold_85 rfl rfl rfl (show _ < 6 from (by omega)) ?_
        refine V.icmp_lt (tgt := 93) dX11_wouldHold_86 rfl (fun c86 => ?_) (fun c86 => ?_)
        · refine V.iconst dX11_wouldHold_93 ic_0 ?_
          refine V.zret dX11_wouldHold_94 (by decide) (Nat.le_of_ble_eq_true rfl) (Nat.le_of_ble_eq_true rfl) ?_
          first | exact b2_ret1 (decide_eq_true (Or.inl c75)) hp | exact b2_ret1 (decide_eq_true (Or.inr (by rw [← hv]; exact Int32.not_lt.mp c86))) hp | exact b2_ret0 (fun z => (of_decide_eq_true z).elim (fun q => q c75) (fun q => absurd c86 (Int32.not_lt.mpr (by rw [hv]; exact q)))) hp
        · refine V.iconst dX11_wouldHold_89 ic_1 ?_
          refine V.goto (tgt := 94) dX11_wouldHold_90 rfl ?_
          refine V.zret dX11_wouldHold_94 (by decide) (Nat.le_of_ble_eq_true rfl) (Nat.le_of_ble_eq_true rfl) ?_
          first | exact b2_ret1 (decide_eq_true (Or.inl c75)) hp | exact b2_ret1 (decide_eq_true (Or.inr (by rw [← hv]; exact Int32.not_lt.mp c86))) hp | exact b2_ret0 (fun z => (of_decide_eq_true z).elim (fun q => q c75) (fun q => absurd c86 (Int32.not_lt.mpr (by rw [hv]; exact q)))) hp
    | succ m ih =>
      intro k hk4 v hv
      refine V.iload (i := 5) dX11_wouldHold_21 rfl ?_
      refine V.bipush dX11_wouldHold_23 bc_10 ?_
      refine V.icmp_geF (tgt := 58) dX11_wouldHold_25 rfl (nI_ge (by omega) (by omega)) ?_
      refine V.iload (i := 4) dX11_wouldHold_28 rfl ?_
      refine V.iload_n (i := 2) dX11_wouldHold_30 rfl rfl ?_
      refine V.iload (i := 5) dX11_wouldHold_31 rfl ?_
      refine V.ishr dX11_wouldHold_33 ?_
      refine V.iconst dX11_wouldHold_34 ic_1 ?_
      refine V.iand dX11_wouldHold_35 ?_
      refine V.aload_n (i := 0) dX11_wouldHold_36 rfl rfl ?_
      refine V.mgeta hE dX11_wouldHold_37 fl_X11_62 rfl ?_
      refine V.bipush dX11_wouldHold_40 bc_10 ?_
      refine V.iload_n (i := 3) dX11_wouldHold_42 rfl rfl ?_
      refine V.imul dX11_wouldHold_43 ?_
      refine V.iload (i := 5) dX11_wouldHold_44 rfl ?_
      refine V.iadd dX11_wouldHold_46 ?_
      refine V.as (nI (10 * t + k)) (by rw [pk_mul, nI_add]) ?_
      refine V.miald hE dX11_wouldHold_47 rfl rfl rfl (show _ < 60 from (by omega)) ?_
      refine V.imul dX11_wouldHold_48 ?_
      refine V.iadd dX11_wouldHold_49 ?_
      refine V.istore4 (by decide) dX11_wouldHold_50 ?_
      refine V.iinc5 (by decide) dX11_wouldHold_52 (inc1 _) ?_
      refine V.goto (tgt := 21) dX11_wouldHold_55 rfl ?_
      exact ih (k + 1) (by omega) _ (by rw [hv]; rfl)
  refine V.aload_n (i := 0) dX11_wouldHold_0 rfl rfl ?_
  refine V.aload_n (i := 0) dX11_wouldHold_1 rfl rfl ?_
  refine V.mgeti hE dX11_wouldHold_2 fl_X11_134 rfl ?_
  refine V.cq1D hE dX11_wouldHold_5 lk_X11_210 rfl (c_forceOn hE (G 0 0) hI ⟨rfl, rfl⟩) (by decide) (by decide) (Nat.le_of_ble_eq_true rfl) (Nat.le_of_ble_eq_true rfl) (Nat.le_of_ble_eq_true rfl) ?_
  refine V.istore_n3 (by decide) dX11_wouldHold_8 ?_
  refine V.iload_n (i := 3) dX11_wouldHold_9 rfl rfl ?_
  refine V.if_ge (tgt := 15) dX11_wouldHold_10 rfl (fun c10 => ?_) (fun c10 => ?_)
  · rw [hge] at c10
    obtain ⟨t, ht⟩ := Option.ne_none_iff_exists'.mp c10
    refine V.iconst dX11_wouldHold_15 ic_0 ?_
    refine V.istore4 (by decide) dX11_wouldHold_16 ?_
    refine V.iconst dX11_wouldHold_18 ic_0 ?_
    refine V.istore5 (by decide) dX11_wouldHold_19 ?_
    rw [show optI (frc G (G 0 0)) = nI t by rw [ht]; rfl]
    exact loop t ht 10 0 rfl _ rfl
  · rw [hge] at c10
    refine V.iconst dX11_wouldHold_13 ic_0 ?_
    refine V.zret dX11_wouldHold_14 (by decide) (Nat.le_of_ble_eq_true rfl) (Nat.le_of_ble_eq_true rfl) ?_
    exact b2_ret0 (by unfold hldB; rw [Classical.not_not.mp c10]; simp) hp
set_option maxRecDepth 100000 in
theorem c_shipOf (hE : eF E = true) (l : Nat) (hl : l < nLk G) (hI : Inv G) (hp : post (some (.int (nI (shipOf G l)))) (wG σ G)) : MX11_shipOf E 1 0 0 [.ref (eQ E 48), .int (nI l)] (wG σ G) post := by
  refine MA.of RX11 "shipOf" [some (.ref (eQ E 48)), some (.int (nI l))] rfl rfl rfl (catAll rfl) (Nat.le_of_ble_eq_true rfl) rfl (fun X => ?_)
  have h60 := hI.lkN.2
  have h50 := hI.caN.2
  have h1 := hI.lk l hl
  have h2 := hI.ca _ h1.2
  refine V.aload_n (i := 0) dX11_shipOf_0 rfl rfl ?_
  refine V.mgeta hE dX11_shipOf_1 fl_X11_37 rfl ?_
  refine V.aload_n (i := 0) dX11_shipOf_4 rfl rfl ?_
  refine V.mgeta hE dX11_shipOf_5 fl_X11_68 rfl ?_
  refine V.iload_n (i := 1) dX11_shipOf_8 rfl rfl ?_
  refine V.miald hE dX11_shipOf_9 rfl rfl rfl (show _ < 60 from (by omega)) ?_
  refine V.miald hE dX11_shipOf_10 rfl rfl h1.1 (show _ < 50 from (by omega)) ?_
  refine V.iret dX11_shipOf_11 (Nat.le_of_ble_eq_true rfl) (Nat.le_of_ble_eq_true rfl) ?_
  exact i_post h2.1 hp
set_option maxRecDepth 100000 in
theorem c_counted (hE : eF E = true) (of : Nat) (k hs : Int32) (ho : of < 3) (hI : Inv G) (hp : post (some (.int (nI (counted G of k (decide (¬ hs = 0)))))) (wG σ G)) : MX11_counted E 2 0 0 [.ref (eQ E 48), .int (nI of), .int k, .int hs] (wG σ G) post := by
  refine MA.of RX11 "counted" [some (.ref (eQ E 48)), some (.int (nI of)), some (.int k), some (.int hs), none, none, none, none] rfl rfl rfl (catAll rfl) (Nat.le_of_ble_eq_true rfl) rfl (fun X => ?_)
  have hn := hI.lkN
  have hdy := hI.day
  have h16 := hI.shN.2
  have loop : ∀ m l, l + m = nLk G → ∀ v, v = nI (fb_ct (cntB G of k (decide (¬ hs = 0))) l) → ∀ l6 l7, V E X RX11 "counted" cX11_counted 8 (some .int) 2 0 0 (QM E X post 0 0) (wG σ G) 0 0 6 [some (.ref (eQ E 48)), some (.int (nI of)), some (.int k), some (.int hs), some (.int v), some (.int (nI l)), l6, l7] [] := by
    intro m
    induction m with
    | zero =>
      intro l hl v hv l6 l7
      refine V.iload (i := 5) dX11_counted_6 rfl ?_
      refine V.aload_n (i := 0) dX11_counted_8 rfl rfl ?_
      refine V.mgeti hE dX11_counted_9 fl_X11_131 rfl ?_
      refine V.icmp_geT (tgt := 120) dX11_counted_12 rfl (lpT hn.1 (by omega) (by omega)) ?_
      refine V.iload (i := 4) dX11_counted_120 rfl ?_
      refine V.iret dX11_counted_122 (Nat.le_of_ble_eq_true rfl) (Nat.le_of_ble_eq_true rfl) ?_
      exact i_post (by rw [hv, counted, show l = nLk G by omega]) hp
    | succ m ih =>
      intro l hl v hv l6 l7
      have hsl : shipOf G l < nSh G := (hI.ca _ (hI.lk l (by omega)).2).2
      have hld := hI.lkD l (by omega)
      have e89 : (G 29 l ≤ G 0 0 - nI 1095) ↔ ¬ inLast G 1095 l = true := by
        unfold inLast
        rw [fa_le, subL hdy.1 hdy.2 (by decide) (by decide), toI 1095 (by decide)]
        simp
      have fin : ∀ x : Int32, x = nI (if cntB G of k (decide (¬ hs = 0)) l then 1 else 0) → ∀ l7, V E X RX11 "counted" cX11_counted 8 (some .int) 2 0 0 (QM E X post 0 0) (wG σ G) 0 0 111 [some (.ref (eQ E 48)), some (.int (nI of)), some (.int k), some (.int hs), some (.int v), some (.int (nI l)), some (.int (nI (shipOf G l))), l7] [.int x, .int v] := by
        intro x hx l7
        refine V.iadd dX11_counted_111 ?_
        refine V.istore4 (by decide) dX11_counted_112 ?_
        refine V.iinc5 (by decide) dX11_counted_114 (inc1 _) ?_
        refine V.goto (tgt := 6) dX11_counted_117 rfl ?_
        exact ih (l + 1) (by omega) _ (by rw [hv, hx, nI_add, fb_ct_succ]) _ _
      have J65 : ∀ x : Int32, x = nI (if isOf G of k l then 1 else 0) → ∀ l7, V E X RX11 "counted" cX11_counted 8 (some .int) 2 0 0 (QM E X post 0 0) (wG σ G) 0 0 65 [some (.ref (eQ E 48)), some (.int (nI of)), some (.int k), some (.int hs), some (.int v), some (.int (nI l)), some (.int (nI (shipOf G l))), l7] [.int x] := by
        intro x hx l7
        have hx0 : x = 0 ↔ ¬ isOf G of k l = true := by rw [hx]; by_cases q : isOf G of k l = true <;> simp [q] <;> decide
        refine V.istore7 (by decide) dX11_counted_65 ?_
        refine V.iload (i := 4) dX11_counted_67 rfl ?_
        refine V.iload (i := 7) dX11_counted_69 rfl ?_
        refine V.if_eq (tgt := 110) dX11_counted_71 rfl (fun c71 => ?_) (fun c71 => ?_)
        · rw [hx0] at c71
          refine V.iconst dX11_counted_110 ic_0 ?_
          exact fin _ (by unfold cntB; simp_all) _
        · rw [hx0] at c71
          refine V.aload_n (i := 0) dX11_counted_74 rfl rfl ?_
          refine V.mgeta hE dX11_counted_75 fl_X11_74 rfl ?_
          refine V.iload (i := 5) dX11_counted_78 rfl ?_
          refine V.miald hE dX11_counted_80 rfl rfl rfl (show _ < 60 from (by omega)) ?_
          refine V.aload_n (i := 0) dX11_counted_81 rfl rfl ?_
          refine V.mgeti hE dX11_counted_82 fl_X11_134 rfl ?_
          refine V.sipush dX11_counted_85 sc_1095 ?_
          refine V.isub dX11_counted_88 ?_
          refine V.icmp_le (tgt := 110) dX11_counted_89 rfl (fun c89 => ?_) (fun c89 => ?_)
          · rw [e89] at c89
            refine V.iconst dX11_counted_110 ic_0 ?_
            exact fin _ (by unfold cntB; simp_all) _
          · rw [e89] at c89
            refine V.aload_n (i := 0) dX11_counted_92 rfl rfl ?_
            refine V.mgeta hE dX11_counted_93 fl_X11_80 rfl ?_
            refine V.iload (i := 5) dX11_counted_96 rfl ?_
            refine V.mzald hE dX11_counted_98 rfl rfl rfl (show _ < 60 from (by omega)) ?_
            refine V.if_ne (tgt := 106) dX11_counted_99 rfl (fun c99 => ?_) (fun c99 => ?_)
            · refine V.iconst dX11_counted_106 ic_1 ?_
              refine V.goto (tgt := 111) dX11_counted_107 rfl ?_
              exact fin _ (by unfold cntB; simp_all) _
            · refine V.iload_n (i := 3) dX11_counted_102 rfl rfl ?_
              refine V.if_ne (tgt := 110) dX11_counted_103 rfl (fun c103 => ?_) (fun c103 => ?_)
              · refine V.iconst dX11_counted_110 ic_0 ?_
                exact fin _ (by unfold cntB; simp_all) _
              · refine V.iconst dX11_counted_106 ic_1 ?_
                refine V.goto (tgt := 111) dX11_counted_107 rfl ?_
                exact fin _ (by unfold cntB; simp_all) _
      refine V.iload (i := 5) dX11_counted_6 rfl ?_
      refine V.aload_n (i := 0) dX11_counted_8 rfl rfl ?_
      refine V.mgeti hE dX11_counted_9 fl_X11_131 rfl ?_
      refine V.icmp_geF (tgt := 120) dX11_counted_12 rfl (lpF hn.1 (by omega) (by omega)) ?_
      refine V.aload_n (i := 0) dX11_counted_15 rfl rfl ?_
      refine V.iload (i := 5) dX11_counted_16 rfl ?_
      refine V.cq1D hE dX11_counted_18 lk_X11_216 rfl (c_shipOf hE l (by omega) hI ⟨rfl, rfl⟩) (by decide) (by decide) (Nat.le_of_ble_eq_true rfl) (Nat.le_of_ble_eq_true rfl) (Nat.le_of_ble_eq_true rfl) ?_
      refine V.istore6 (by decide) dX11_counted_21 ?_
      refine V.iload_n (i := 1) dX11_counted_23 rfl rfl ?_
      refine V.iconst dX11_counted_24 ic_2 ?_
      refine V.icmp_eq (tgt := 60) dX11_counted_25 rfl (fun c25 => ?_) (fun c25 => ?_)
      · rw [nI_eq (by omega) (by decide)] at c25
        refine V.iconst dX11_counted_60 ic_1 ?_
        refine V.goto (tgt := 65) dX11_counted_61 rfl ?_
        exact J65 _ (by unfold isOf; simp_all) _
      · rw [nI_eq (by omega) (by decide)] at c25
        refine V.iload_n (i := 1) dX11_counted_28 rfl rfl ?_
        refine V.if_ne (tgt := 49) dX11_counted_29 rfl (fun c29 => ?_) (fun c29 => ?_)
        · rw [show (0 : Int32) = nI 0 from rfl, nI_eq (by omega) (by decide)] at c29
          refine V.aload_n (i := 0) dX11_counted_49 rfl rfl ?_
          refine V.mgeta hE dX11_counted_50 fl_X11_13 rfl ?_
          refine V.iload (i := 6) dX11_counted_53 rfl ?_
          refine V.miald hE dX11_counted_55 rfl rfl rfl (show _ < 16 from (by omega)) ?_
          refine V.iload_n (i := 2) dX11_counted_56 rfl rfl ?_
          refine V.icmp_ne (tgt := 64) dX11_counted_57 rfl (fun c57 => ?_) (fun c57 => ?_)
          · refine V.iconst dX11_counted_64 ic_0 ?_
            exact J65 _ (by unfold isOf; simp_all) _
          · refine V.iconst dX11_counted_60 ic_1 ?_
            refine V.goto (tgt := 65) dX11_counted_61 rfl ?_
            exact J65 _ (by unfold isOf; simp_all) _
        · rw [show (0 : Int32) = nI 0 from rfl, nI_eq (by omega) (by decide)] at c29
          refine V.aload_n (i := 0) dX11_counted_32 rfl rfl ?_
          refine V.iload (i := 6) dX11_counted_33 rfl ?_
          refine V.iconst dX11_counted_35 ic_1 ?_
          refine V.aload_n (i := 0) dX11_counted_36 rfl rfl ?_
          refine V.mgeta hE dX11_counted_37 fl_X11_74 rfl ?_
          refine V.iload (i := 5) dX11_counted_40 rfl ?_
          refine V.miald hE dX11_counted_42 rfl rfl rfl (show _ < 60 from (by omega)) ?_
          refine V.cq3D hE dX11_counted_43 lk_X11_155 rfl (c_hadOn hE (shipOf G l) 1 _ (by omega) (by decide) hI ⟨rfl, rfl⟩) (by decide) (by decide) (Nat.le_of_ble_eq_true rfl) (Nat.le_of_ble_eq_true rfl) (Nat.le_of_ble_eq_true rfl) ?_
          refine V.goto (tgt := 56) dX11_counted_46 rfl ?_
          refine V.iload_n (i := 2) dX11_counted_56 rfl rfl ?_
          refine V.icmp_ne (tgt := 64) dX11_counted_57 rfl (fun c57 => ?_) (fun c57 => ?_)
          · refine V.iconst dX11_counted_64 ic_0 ?_
            exact J65 _ (by unfold isOf; simp_all) _
          · refine V.iconst dX11_counted_60 ic_1 ?_
            refine V.goto (tgt := 65) dX11_counted_61 rfl ?_
            exact J65 _ (by unfold isOf; simp_all) _
  refine V.iconst dX11_counted_0 ic_0 ?_
  refine V.istore4 (by decide) dX11_counted_1 ?_
  refine V.iconst dX11_counted_3 ic_0 ?_
  refine V.istore5 (by decide) dX11_counted_4 ?_
  exact loop (nLk G) 0 (by omega) _ rfl _ _
end REF6

