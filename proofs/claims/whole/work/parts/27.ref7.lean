/-! ===== the model: bans, told, share, risk ===== -/
theorem b2_is1 {p : Prop} [Decidable p] : b2 p = nI 1 ↔ p := by
  unfold b2
  by_cases h : p
  · rw [if_pos h]; simp [h]; rfl
  · rw [if_neg h]; simp [h]; decide
theorem tiN {x : Int32} {a b : Nat} (h1 : (a : Int) ≤ x.toInt) (h2 : x.toInt ≤ (b : Int)) : ∃ n, a ≤ n ∧ n ≤ b ∧ x = nI n := by
  obtain ⟨j, hj, rfl⟩ := nI_of (x := x) (by rw [lt0]; omega)
  rw [toI j hj] at h1 h2
  exact ⟨j, by omega, by omega, rfl⟩
section REF7
variable {E : VE} {σ : Sg} {G : GS} {post : Option Value → Sg → Prop}
set_option maxRecDepth 100000 in
theorem c_ban (hE : eF E = true) (i : Nat) (hi : i < nSh G) (hI : Inv G) (hp : post none (wG σ (banG G i))) : MX11_ban E 4 0 0 [.ref (eQ E 48), .int (nI i)] (wG σ G) post := by
  refine MA.of RX11 "ban" [some (.ref (eQ E 48)), some (.int (nI i)), none, none, none] rfl rfl rfl (catAll rfl) (Nat.le_of_ble_eq_true rfl) rfl (fun X => ?_)
  have hn := hI.lkN
  have hdy := hI.day
  have h16 := hI.shN.2
  obtain ⟨mo, hm1, hm2, hmo⟩ := tiN (a := 1) (b := 99) hI.mon.1 hI.mon.2
  have loop : ∀ sp : Nat, sp ≤ 99 → (sp : Int) = banSpan G i → ∀ m l, l + m = nLk G → ∀ v, v = nI (fb_ct (fun l => decide (¬ G 31 l = 0 ∧ shipOf G l = i) && inLast G (30 * banSpan G i) l) l) → V E X RX11 "ban" cX11_ban 5 none 4 0 0 (QM E X post 0 0) (wG σ G) 0 0 40 [some (.ref (eQ E 48)), some (.int (nI i)), some (.int (nI sp)), some (.int v), some (.int (nI l))] [] := by
    intro sp hsp hspe m
    induction m with
    | zero =>
      intro l hl v hv
      have hv2 : v = nI (banCnt G i) := by rw [hv, banCnt, show l = nLk G by omega]
      have hc60 : banCnt G i ≤ 60 := Nat.le_trans (fb_ct_le _ _) hn.2
      refine V.iload (i := 4) dX11_ban_40 rfl ?_
      refine V.aload_n (i := 0) dX11_ban_42 rfl rfl ?_
      refine V.mgeti hE dX11_ban_43 fl_X11_131 rfl ?_
      refine V.icmp_geT (tgt := 102) dX11_ban_46 rfl (lpT hn.1 (by omega) (by omega)) ?_
      refine V.iload_n (i := 3) dX11_ban_102 rfl rfl ?_
      refine V.iconst dX11_ban_103 ic_3 ?_
      refine V.icmp_lt (tgt := 143) dX11_ban_104 rfl (fun c104 => ?_) (fun c104 => ?_)
      · rw [hv2, nI_ltI (by omega) (by decide)] at c104
        refine V.vret dX11_ban_143 (Nat.le_of_ble_eq_true rfl) (Nat.le_of_ble_eq_true rfl) ?_
        unfold banG at hp
        first | (rw [if_neg (by omega)] at hp; exact hp) | (rw [if_neg (fun z => c113 z.2)] at hp; exact hp) | (rw [if_pos ⟨by omega, c113⟩] at hp; exact hp)
      · rw [hv2, nI_ltI (by omega) (by decide)] at c104
        refine V.aload_n (i := 0) dX11_ban_107 rfl rfl ?_
        refine V.mgeta hE dX11_ban_108 fl_X11_93 rfl ?_
        refine V.iload_n (i := 1) dX11_ban_111 rfl rfl ?_
        refine V.mzald hE dX11_ban_112 rfl rfl rfl (show _ < 16 from (by omega)) ?_
        refine V.if_ne (tgt := 143) dX11_ban_113 rfl (fun c113 => ?_) (fun c113 => ?_)
        · refine V.vret dX11_ban_143 (Nat.le_of_ble_eq_true rfl) (Nat.le_of_ble_eq_true rfl) ?_
          unfold banG at hp
          first | (rw [if_neg (by omega)] at hp; exact hp) | (rw [if_neg (fun z => c113 z.2)] at hp; exact hp) | (rw [if_pos ⟨by omega, c113⟩] at hp; exact hp)
        · refine V.aload_n (i := 0) dX11_ban_116 rfl rfl ?_
          refine V.mgeta hE dX11_ban_117 fl_X11_93 rfl ?_
          refine V.iload_n (i := 1) dX11_ban_120 rfl rfl ?_
          refine V.iconst dX11_ban_121 ic_1 ?_
          refine V.mzast hE dX11_ban_122 rfl rfl (by decide) rfl (show _ < 16 from (by omega)) ?_
          refine V.aload_n (i := 0) dX11_ban_123 rfl rfl ?_
          refine V.mgeta hE dX11_ban_124 fl_X11_99 rfl ?_
          refine V.iload_n (i := 1) dX11_ban_127 rfl rfl ?_
          refine V.aload_n (i := 0) dX11_ban_128 rfl rfl ?_
          refine V.mgeti hE dX11_ban_129 fl_X11_134 rfl ?_
          refine V.miast hE dX11_ban_132 rfl rfl rfl (show _ < 16 from (by omega)) ?_
          refine V.aload_n (i := 0) dX11_ban_133 rfl rfl ?_
          refine V.mgeta hE dX11_ban_134 fl_X11_96 rfl ?_
          refine V.iload_n (i := 1) dX11_ban_137 rfl rfl ?_
          refine V.dup2 dX11_ban_138 rfl rfl ?_
          refine V.miald hE dX11_ban_139 rfl rfl rfl (show _ < 16 from (by omega)) ?_
          refine V.iconst dX11_ban_140 ic_1 ?_
          refine V.iadd dX11_ban_141 ?_
          refine V.miast hE dX11_ban_142 rfl rfl rfl (show _ < 16 from (by omega)) ?_
          refine V.vret dX11_ban_143 (Nat.le_of_ble_eq_true rfl) (Nat.le_of_ble_eq_true rfl) ?_
          unfold banG at hp
          first | (rw [if_neg (by omega)] at hp; exact hp) | (rw [if_neg (fun z => c113 z.2)] at hp; exact hp) | (rw [if_pos ⟨by omega, c113⟩] at hp; exact hp)
    | succ m ih =>
      intro l hl v hv
      have hsl : shipOf G l < nSh G := (hI.ca _ (hI.lk l (by omega)).2).2
      have hld := hI.lkD l (by omega)
      have e86 : (G 29 l ≤ G 0 0 - nI 30 * nI sp) ↔ ¬ inLast G (30 * banSpan G i) l = true := by
        unfold inLast
        rw [pk_mul, fa_le, subL hdy.1 hdy.2 (by rw [toI _ (by omega)]; omega) (by rw [toI _ (by omega)]; omega), toI _ (by omega), ← hspe]
        simp
      refine V.iload (i := 4) dX11_ban_40 rfl ?_
      refine V.aload_n (i := 0) dX11_ban_42 rfl rfl ?_
      refine V.mgeti hE dX11_ban_43 fl_X11_131 rfl ?_
      refine V.icmp_geF (tgt := 102) dX11_ban_46 rfl (lpF hn.1 (by omega) (by omega)) ?_
      refine V.iload_n (i := 3) dX11_ban_49 rfl rfl ?_
      refine V.aload_n (i := 0) dX11_ban_50 rfl rfl ?_
      refine V.mgeta hE dX11_ban_51 fl_X11_80 rfl ?_
      refine V.iload (i := 4) dX11_ban_54 rfl ?_
      refine V.mzald hE dX11_ban_56 rfl rfl rfl (show _ < 60 from (by omega)) ?_
      refine V.if_eq (tgt := 93) dX11_ban_57 rfl (fun c57 => ?_) (fun c57 => ?_)
      · refine V.iconst dX11_ban_93 ic_0 ?_
        refine V.iadd dX11_ban_94 ?_
        refine V.istore_n3 (by decide) dX11_ban_95 ?_
        refine V.iinc4 (by decide) dX11_ban_96 (inc1 _) ?_
        refine V.goto (tgt := 40) dX11_ban_99 rfl ?_
        exact ih (l + 1) (by omega) _ (by rw [hv, nI_add, fb_ct_succ]; simp_all)
      · refine V.aload_n (i := 0) dX11_ban_60 rfl rfl ?_
        refine V.iload (i := 4) dX11_ban_61 rfl ?_
        refine V.cq1D hE dX11_ban_63 lk_X11_216 rfl (c_shipOf hE l (by omega) hI ⟨rfl, rfl⟩) (by decide) (by decide) (Nat.le_of_ble_eq_true rfl) (Nat.le_of_ble_eq_true rfl) (Nat.le_of_ble_eq_true rfl) ?_
        refine V.iload_n (i := 1) dX11_ban_66 rfl rfl ?_
        refine V.icmp_ne (tgt := 93) dX11_ban_67 rfl (fun c67 => ?_) (fun c67 => ?_)
        · rw [nI_eq (by omega) (by omega)] at c67
          refine V.iconst dX11_ban_93 ic_0 ?_
          refine V.iadd dX11_ban_94 ?_
          refine V.istore_n3 (by decide) dX11_ban_95 ?_
          refine V.iinc4 (by decide) dX11_ban_96 (inc1 _) ?_
          refine V.goto (tgt := 40) dX11_ban_99 rfl ?_
          exact ih (l + 1) (by omega) _ (by rw [hv, nI_add, fb_ct_succ]; simp_all)
        · rw [nI_eq (by omega) (by omega)] at c67
          refine V.aload_n (i := 0) dX11_ban_70 rfl rfl ?_
          refine V.mgeta hE dX11_ban_71 fl_X11_74 rfl ?_
          refine V.iload (i := 4) dX11_ban_74 rfl ?_
          refine V.miald hE dX11_ban_76 rfl rfl rfl (show _ < 60 from (by omega)) ?_
          refine V.aload_n (i := 0) dX11_ban_77 rfl rfl ?_
          refine V.mgeti hE dX11_ban_78 fl_X11_134 rfl ?_
          refine V.bipush dX11_ban_81 bc_30 ?_
          refine V.iload_n (i := 2) dX11_ban_83 rfl rfl ?_
          refine V.imul dX11_ban_84 ?_
          refine V.isub dX11_ban_85 ?_
          refine V.icmp_le (tgt := 93) dX11_ban_86 rfl (fun c86 => ?_) (fun c86 => ?_)
          · rw [e86] at c86
            refine V.iconst dX11_ban_93 ic_0 ?_
            refine V.iadd dX11_ban_94 ?_
            refine V.istore_n3 (by decide) dX11_ban_95 ?_
            refine V.iinc4 (by decide) dX11_ban_96 (inc1 _) ?_
            refine V.goto (tgt := 40) dX11_ban_99 rfl ?_
            exact ih (l + 1) (by omega) _ (by rw [hv, nI_add, fb_ct_succ]; simp_all)
          · rw [e86] at c86
            refine V.iconst dX11_ban_89 ic_1 ?_
            refine V.goto (tgt := 94) dX11_ban_90 rfl ?_
            refine V.iadd dX11_ban_94 ?_
            refine V.istore_n3 (by decide) dX11_ban_95 ?_
            refine V.iinc4 (by decide) dX11_ban_96 (inc1 _) ?_
            refine V.goto (tgt := 40) dX11_ban_99 rfl ?_
            exact ih (l + 1) (by omega) _ (by rw [hv, nI_add, fb_ct_succ]; simp_all)
  refine V.aload_n (i := 0) dX11_ban_0 rfl rfl ?_
  refine V.iconst dX11_ban_1 ic_0 ?_
  refine V.aload_n (i := 0) dX11_ban_2 rfl rfl ?_
  refine V.iload_n (i := 1) dX11_ban_3 rfl rfl ?_
  refine V.iconst dX11_ban_4 ic_1 ?_
  refine V.aload_n (i := 0) dX11_ban_5 rfl rfl ?_
  refine V.mgeti hE dX11_ban_6 fl_X11_134 rfl ?_
  refine V.cq3D hE dX11_ban_9 lk_X11_155 rfl (c_hadOn hE i 1 _ (by omega) (by decide) hI ⟨rfl, rfl⟩) (by decide) (by decide) (Nat.le_of_ble_eq_true rfl) (Nat.le_of_ble_eq_true rfl) (Nat.le_of_ble_eq_true rfl) ?_
  refine V.cq2D hE dX11_ban_12 lk_X11_213 rfl (c_darkOf hE 0 _ (by decide) hI ⟨rfl, rfl⟩) (by decide) (by decide) (Nat.le_of_ble_eq_true rfl) (Nat.le_of_ble_eq_true rfl) (Nat.le_of_ble_eq_true rfl) ?_
  refine V.iconst dX11_ban_15 ic_1 ?_
  refine V.icmp_ne (tgt := 30) dX11_ban_16 rfl (fun c16 => ?_) (fun c16 => ?_)
  · rw [b2_is1] at c16
    have hb : (mo : Int) = banSpan G i := by unfold banSpan; rw [if_neg c16, hmo, toI _ (by omega)]
    refine V.aload_n (i := 0) dX11_ban_30 rfl rfl ?_
    refine V.mgeti hE dX11_ban_31 fl_X11_89 rfl ?_
    refine V.as _ hmo ?_
    refine V.istore_n2 (by decide) dX11_ban_34 ?_
    refine V.iconst dX11_ban_35 ic_0 ?_
    refine V.istore_n3 (by decide) dX11_ban_36 ?_
    refine V.iconst dX11_ban_37 ic_0 ?_
    refine V.istore4 (by decide) dX11_ban_38 ?_
    exact loop _ (by omega) hb (nLk G) 0 (by omega) _ rfl
  · rw [b2_is1] at c16
    have hb : ((2 * mo / 3 : Nat) : Int) = banSpan G i := by unfold banSpan; rw [if_pos c16, hmo, toI _ (by omega)]; omega
    refine V.iconst dX11_ban_19 ic_2 ?_
    refine V.aload_n (i := 0) dX11_ban_20 rfl rfl ?_
    refine V.mgeti hE dX11_ban_21 fl_X11_89 rfl ?_
    refine V.imul dX11_ban_24 ?_
    refine V.iconst dX11_ban_25 ic_3 ?_
    refine V.idiv dX11_ban_26 (by decide) ?_
    refine V.as (nI (2 * mo / 3)) (by rw [hmo, pk_mul, pk_div (by omega) (by decide) (by decide)]) ?_
    refine V.goto (tgt := 34) dX11_ban_27 rfl ?_
    refine V.istore_n2 (by decide) dX11_ban_34 ?_
    refine V.iconst dX11_ban_35 ic_0 ?_
    refine V.istore_n3 (by decide) dX11_ban_36 ?_
    refine V.iconst dX11_ban_37 ic_0 ?_
    refine V.istore4 (by decide) dX11_ban_38 ?_
    exact loop _ (by omega) hb (nLk G) 0 (by omega) _ rfl
set_option maxRecDepth 100000 in
theorem c_told (hE : eF E = true) (l w : Int32) (hI : Inv G) (hp : post (some (.int (s_told G l w).1)) (wG σ (s_told G l w).2)) : MX11_told E 3 0 0 [.ref (eQ E 48), .int l, .int w] (wG σ G) post := by
  refine MA.of RX11 "told" [some (.ref (eQ E 48)), some (.int l), some (.int w)] rfl rfl rfl (catAll rfl) (Nat.le_of_ble_eq_true rfl) rfl (fun X => ?_)
  have h60 := hI.lkN.2
  refine V.aload_n (i := 0) dX11_told_0 rfl rfl ?_
  refine V.iload_n (i := 1) dX11_told_1 rfl rfl ?_
  refine V.cq1D hE dX11_told_2 lk_X11_226 rfl (c_isLook hE _ hI ⟨rfl, rfl⟩) (by decide) (by decide) (Nat.le_of_ble_eq_true rfl) (Nat.le_of_ble_eq_true rfl) (Nat.le_of_ble_eq_true rfl) ?_
  refine V.ifb_eq (tgt := 17) dX11_told_5 rfl (fun c5 => ?_) (fun c5 => ?_)
  · refine V.aload_n (i := 0) dX11_told_17 rfl rfl ?_
    refine V.iconst dX11_told_18 ic_1 ?_
    refine V.cq1D hE dX11_told_19 lk_X11_137 rfl (c_finding hE _ (by decide) ⟨rfl, rfl⟩) (by decide) (by decide) (Nat.le_of_ble_eq_true rfl) (Nat.le_of_ble_eq_true rfl) (Nat.le_of_ble_eq_true rfl) ?_
    refine V.iret dX11_told_22 (Nat.le_of_ble_eq_true rfl) (Nat.le_of_ble_eq_true rfl) ?_
    exact pr_post (if_neg (by omega)) hp
  · refine V.iload_n (i := 2) dX11_told_8 rfl rfl ?_
    refine V.iconst dX11_told_9 ic_0 ?_
    refine V.iconst dX11_told_10 ic_4 ?_
    refine V.cs3D dX11_told_11 lk_X11_124 (c_isInN _ 0 4 (by decide) (by decide) ⟨rfl, rfl⟩) (by decide) (by decide) (Nat.le_of_ble_eq_true rfl) (Nat.le_of_ble_eq_true rfl) (Nat.le_of_ble_eq_true rfl) ?_
    refine V.ifb_ne (tgt := 23) dX11_told_14 rfl (fun c14 => ?_) (fun c14 => ?_)
    · obtain ⟨i, hi, rfl⟩ := idxOf c5
      obtain ⟨j, hj, rfl⟩ := idxOf (x := w) (n := 5) (by omega)
      have hz : s_told G (nI i) (nI j) = (if j = 0 then G 27 i else if j = 1 then G 28 i else if j = 2 then G 29 i else if j = 3 then G 30 i else b2 (¬ G 31 i = 0), G) := by
        unfold s_told
        rw [tn_nI (by omega), tn_nI (by omega), if_pos (by omega)]
      refine V.iload_n (i := 2) dX11_told_23 rfl rfl ?_
      refine V.if_ne (tgt := 36) dX11_told_24 rfl (fun c24 => ?_) (fun c24 => ?_)
      · rw [show (0 : Int32) = nI 0 from rfl, nI_eq (by omega) (by decide)] at c24
        refine V.iload_n (i := 2) dX11_told_36 rfl rfl ?_
        refine V.iconst dX11_told_37 ic_1 ?_
        refine V.icmp_ne (tgt := 50) dX11_told_38 rfl (fun c38 => ?_) (fun c38 => ?_)
        · rw [nI_eq (by omega) (by decide)] at c38
          refine V.iload_n (i := 2) dX11_told_50 rfl rfl ?_
          refine V.iconst dX11_told_51 ic_2 ?_
          refine V.icmp_ne (tgt := 64) dX11_told_52 rfl (fun c52 => ?_) (fun c52 => ?_)
          · rw [nI_eq (by omega) (by decide)] at c52
            refine V.iload_n (i := 2) dX11_told_64 rfl rfl ?_
            refine V.iconst dX11_told_65 ic_3 ?_
            refine V.icmp_ne (tgt := 78) dX11_told_66 rfl (fun c66 => ?_) (fun c66 => ?_)
            · rw [nI_eq (by omega) (by decide)] at c66
              refine V.aload_n (i := 0) dX11_told_78 rfl rfl ?_
              refine V.mgeta hE dX11_told_79 fl_X11_80 rfl ?_
              refine V.iload_n (i := 1) dX11_told_82 rfl rfl ?_
              refine V.mzald hE dX11_told_83 rfl rfl rfl (show _ < 60 from (by omega)) ?_
              refine V.if_eq (tgt := 91) dX11_told_84 rfl (fun c84 => ?_) (fun c84 => ?_)
              · refine V.iconst dX11_told_91 ic_0 ?_
                refine V.iret dX11_told_92 (Nat.le_of_ble_eq_true rfl) (Nat.le_of_ble_eq_true rfl) ?_
                refine pr_post (hz.trans ?_) hp
                first | (rw [if_pos c24]) | (rw [if_neg c24, if_pos c38]) | (rw [if_neg c24, if_neg c38, if_pos c52]) | (rw [if_neg c24, if_neg c38, if_neg c52, if_pos c66]) | (rw [if_neg c24, if_neg c38, if_neg c52, if_neg c66, b2F (Classical.not_not.mpr c84)]) | (rw [if_neg c24, if_neg c38, if_neg c52, if_neg c66, b2T c84])
              · refine V.iconst dX11_told_87 ic_1 ?_
                refine V.goto (tgt := 92) dX11_told_88 rfl ?_
                refine V.iret dX11_told_92 (Nat.le_of_ble_eq_true rfl) (Nat.le_of_ble_eq_true rfl) ?_
                refine pr_post (hz.trans ?_) hp
                first | (rw [if_pos c24]) | (rw [if_neg c24, if_pos c38]) | (rw [if_neg c24, if_neg c38, if_pos c52]) | (rw [if_neg c24, if_neg c38, if_neg c52, if_pos c66]) | (rw [if_neg c24, if_neg c38, if_neg c52, if_neg c66, b2F (Classical.not_not.mpr c84)]) | (rw [if_neg c24, if_neg c38, if_neg c52, if_neg c66, b2T c84])
            · rw [nI_eq (by omega) (by decide)] at c66
              refine V.aload_n (i := 0) dX11_told_69 rfl rfl ?_
              refine V.mgeta hE dX11_told_70 fl_X11_77 rfl ?_
              refine V.iload_n (i := 1) dX11_told_73 rfl rfl ?_
              refine V.miald hE dX11_told_74 rfl rfl rfl (show _ < 60 from (by omega)) ?_
              refine V.goto (tgt := 92) dX11_told_75 rfl ?_
              refine V.iret dX11_told_92 (Nat.le_of_ble_eq_true rfl) (Nat.le_of_ble_eq_true rfl) ?_
              refine pr_post (hz.trans ?_) hp
              first | (rw [if_pos c24]) | (rw [if_neg c24, if_pos c38]) | (rw [if_neg c24, if_neg c38, if_pos c52]) | (rw [if_neg c24, if_neg c38, if_neg c52, if_pos c66]) | (rw [if_neg c24, if_neg c38, if_neg c52, if_neg c66, b2F (Classical.not_not.mpr c84)]) | (rw [if_neg c24, if_neg c38, if_neg c52, if_neg c66, b2T c84])
          · rw [nI_eq (by omega) (by decide)] at c52
            refine V.aload_n (i := 0) dX11_told_55 rfl rfl ?_
            refine V.mgeta hE dX11_told_56 fl_X11_74 rfl ?_
            refine V.iload_n (i := 1) dX11_told_59 rfl rfl ?_
            refine V.miald hE dX11_told_60 rfl rfl rfl (show _ < 60 from (by omega)) ?_
            refine V.goto (tgt := 92) dX11_told_61 rfl ?_
            refine V.iret dX11_told_92 (Nat.le_of_ble_eq_true rfl) (Nat.le_of_ble_eq_true rfl) ?_
            refine pr_post (hz.trans ?_) hp
            first | (rw [if_pos c24]) | (rw [if_neg c24, if_pos c38]) | (rw [if_neg c24, if_neg c38, if_pos c52]) | (rw [if_neg c24, if_neg c38, if_neg c52, if_pos c66]) | (rw [if_neg c24, if_neg c38, if_neg c52, if_neg c66, b2F (Classical.not_not.mpr c84)]) | (rw [if_neg c24, if_neg c38, if_neg c52, if_neg c66, b2T c84])
        · rw [nI_eq (by omega) (by decide)] at c38
          refine V.aload_n (i := 0) dX11_told_41 rfl rfl ?_
          refine V.mgeta hE dX11_told_42 fl_X11_71 rfl ?_
          refine V.iload_n (i := 1) dX11_told_45 rfl rfl ?_
          refine V.miald hE dX11_told_46 rfl rfl rfl (show _ < 60 from (by omega)) ?_
          refine V.goto (tgt := 92) dX11_told_47 rfl ?_
          refine V.iret dX11_told_92 (Nat.le_of_ble_eq_true rfl) (Nat.le_of_ble_eq_true rfl) ?_
          refine pr_post (hz.trans ?_) hp
          first | (rw [if_pos c24]) | (rw [if_neg c24, if_pos c38]) | (rw [if_neg c24, if_neg c38, if_pos c52]) | (rw [if_neg c24, if_neg c38, if_neg c52, if_pos c66]) | (rw [if_neg c24, if_neg c38, if_neg c52, if_neg c66, b2F (Classical.not_not.mpr c84)]) | (rw [if_neg c24, if_neg c38, if_neg c52, if_neg c66, b2T c84])
      · rw [show (0 : Int32) = nI 0 from rfl, nI_eq (by omega) (by decide)] at c24
        refine V.aload_n (i := 0) dX11_told_27 rfl rfl ?_
        refine V.mgeta hE dX11_told_28 fl_X11_68 rfl ?_
        refine V.iload_n (i := 1) dX11_told_31 rfl rfl ?_
        refine V.miald hE dX11_told_32 rfl rfl rfl (show _ < 60 from (by omega)) ?_
        refine V.goto (tgt := 92) dX11_told_33 rfl ?_
        refine V.iret dX11_told_92 (Nat.le_of_ble_eq_true rfl) (Nat.le_of_ble_eq_true rfl) ?_
        refine pr_post (hz.trans ?_) hp
        first | (rw [if_pos c24]) | (rw [if_neg c24, if_pos c38]) | (rw [if_neg c24, if_neg c38, if_pos c52]) | (rw [if_neg c24, if_neg c38, if_neg c52, if_pos c66]) | (rw [if_neg c24, if_neg c38, if_neg c52, if_neg c66, b2F (Classical.not_not.mpr c84)]) | (rw [if_neg c24, if_neg c38, if_neg c52, if_neg c66, b2T c84])
    · refine V.aload_n (i := 0) dX11_told_17 rfl rfl ?_
      refine V.iconst dX11_told_18 ic_1 ?_
      refine V.cq1D hE dX11_told_19 lk_X11_137 rfl (c_finding hE _ (by decide) ⟨rfl, rfl⟩) (by decide) (by decide) (Nat.le_of_ble_eq_true rfl) (Nat.le_of_ble_eq_true rfl) (Nat.le_of_ble_eq_true rfl) ?_
      refine V.iret dX11_told_22 (Nat.le_of_ble_eq_true rfl) (Nat.le_of_ble_eq_true rfl) ?_
      exact pr_post (if_neg (by omega)) hp
set_option maxRecDepth 100000 in
theorem c_share (hE : eF E = true) (of k w : Int32) (hI : Inv G) (hp : post (some (.int (s_share G of k w).1)) (wG σ (s_share G of k w).2)) : MX11_share E 4 0 0 [.ref (eQ E 48), .int of, .int k, .int w] (wG σ G) post := by
  refine MA.of RX11 "share" [some (.ref (eQ E 48)), some (.int of), some (.int k), some (.int w)] rfl rfl rfl (catAll rfl) (Nat.le_of_ble_eq_true rfl) rfl (fun X => ?_)
  by_cases hos : 0 ≤ of.toInt ∧ of.toInt ≤ 2
  · obtain ⟨j, hj, rfl⟩ := idxOf (x := of) (n := 3) (by omega)
    have hz : groupTop (tn (nI j)) = groupTop j := by rw [tn_nI (by omega)]
    have hg : groupTop j ≤ 5 := by
      unfold groupTop
      split
      · omega
      · split <;> omega
    refine V.iload_n (i := 1) dX11_share_0 rfl rfl ?_
    refine V.iconst dX11_share_1 ic_0 ?_
    refine V.iconst dX11_share_2 ic_2 ?_
    refine V.cs3D dX11_share_3 lk_X11_124 (c_isInN _ 0 2 (by decide) (by decide) ⟨rfl, rfl⟩) (by decide) (by decide) (Nat.le_of_ble_eq_true rfl) (Nat.le_of_ble_eq_true rfl) (Nat.le_of_ble_eq_true rfl) ?_
    refine V.ifb_eqF (tgt := 44) dX11_share_6 rfl hos ?_
    refine V.iload_n (i := 2) dX11_share_9 rfl rfl ?_
    refine V.iconst dX11_share_10 ic_0 ?_
    refine V.iload_n (i := 1) dX11_share_11 rfl rfl ?_
    refine V.if_ne (tgt := 19) dX11_share_12 rfl (fun c12 => ?_) (fun c12 => ?_)
    · refine V.iload_n (i := 1) dX11_share_19 rfl rfl ?_
      refine V.iconst dX11_share_20 ic_1 ?_
      refine V.icmp_ne (tgt := 28) dX11_share_21 rfl (fun c21 => ?_) (fun c21 => ?_)
      · refine V.iconst dX11_share_28 ic_0 ?_
        refine V.as (nI (groupTop j)) (by rcases (show j = 0 ∨ j = 1 ∨ j = 2 by omega) with rfl | rfl | rfl <;> first | rfl | exact absurd (by decide) c12 | exact absurd c12 (by decide) | exact absurd (by decide) c21 | exact absurd c21 (by decide)) ?_
        refine V.cs3D dX11_share_29 lk_X11_124 (c_isInN _ 0 (groupTop j) (by decide) (by omega) ⟨rfl, rfl⟩) (by decide) (by decide) (Nat.le_of_ble_eq_true rfl) (Nat.le_of_ble_eq_true rfl) (Nat.le_of_ble_eq_true rfl) ?_
        refine V.ifb_eq (tgt := 44) dX11_share_32 rfl (fun c32 => ?_) (fun c32 => ?_)
        · refine V.aload_n (i := 0) dX11_share_44 rfl rfl ?_
          refine V.iconst dX11_share_45 ic_1 ?_
          refine V.cq1D hE dX11_share_46 lk_X11_137 rfl (c_finding hE _ (by decide) ⟨rfl, rfl⟩) (by decide) (by decide) (Nat.le_of_ble_eq_true rfl) (Nat.le_of_ble_eq_true rfl) (Nat.le_of_ble_eq_true rfl) ?_
          refine V.iret dX11_share_49 (Nat.le_of_ble_eq_true rfl) (Nat.le_of_ble_eq_true rfl) ?_
          exact pr_post (if_neg (by rw [hz]; omega)) hp
        · refine V.iload_n (i := 3) dX11_share_35 rfl rfl ?_
          refine V.iconst dX11_share_36 ic_0 ?_
          refine V.iconst dX11_share_37 ic_2 ?_
          refine V.cs3D dX11_share_38 lk_X11_124 (c_isInN _ 0 2 (by decide) (by decide) ⟨rfl, rfl⟩) (by decide) (by decide) (Nat.le_of_ble_eq_true rfl) (Nat.le_of_ble_eq_true rfl) (Nat.le_of_ble_eq_true rfl) ?_
          refine V.ifb_ne (tgt := 50) dX11_share_41 rfl (fun c41 => ?_) (fun c41 => ?_)
          · obtain ⟨i, hi, rfl⟩ := idxOf (x := w) (n := 3) (by omega)
            have hzz : s_share G (nI j) k (nI i) = (if i < 2 then nI (counted G j k (decide (i = 1))) else if j = 2 then nI 0 else b2 (darkB G j k = true), G) := by
              unfold s_share
              rw [tn_nI (by omega), tn_nI (by omega), if_pos (by omega)]
            refine V.iload_n (i := 3) dX11_share_50 rfl rfl ?_
            refine V.iconst dX11_share_51 ic_2 ?_
            refine V.icmp_ge (tgt := 74) dX11_share_52 rfl (fun c52 => ?_) (fun c52 => ?_)
            · rw [nI_leI (by decide) (by omega)] at c52
              refine V.iload_n (i := 1) dX11_share_74 rfl rfl ?_
              refine V.iconst dX11_share_75 ic_2 ?_
              refine V.icmp_ne (tgt := 83) dX11_share_76 rfl (fun c76 => ?_) (fun c76 => ?_)
              · rw [nI_eq (by omega) (by decide)] at c76
                refine V.aload_n (i := 0) dX11_share_83 rfl rfl ?_
                refine V.iload_n (i := 1) dX11_share_84 rfl rfl ?_
                refine V.iload_n (i := 2) dX11_share_85 rfl rfl ?_
                refine V.cq2D hE dX11_share_86 lk_X11_213 rfl (c_darkOf hE j k hj hI ⟨rfl, rfl⟩) (by decide) (by decide) (Nat.le_of_ble_eq_true rfl) (Nat.le_of_ble_eq_true rfl) (Nat.le_of_ble_eq_true rfl) ?_
                refine V.iret dX11_share_89 (Nat.le_of_ble_eq_true rfl) (Nat.le_of_ble_eq_true rfl) ?_
                refine pr_post (hzz.trans ?_) hp
                first | (rw [if_pos (by omega)]; first | (rw [decide_eq_true c60]; rfl) | (rw [decide_eq_false c60]; rfl)) | (rw [if_neg (by omega), if_pos c76]) | (rw [if_neg (by omega), if_neg c76])
              · rw [nI_eq (by omega) (by decide)] at c76
                refine V.iconst dX11_share_79 ic_0 ?_
                refine V.goto (tgt := 89) dX11_share_80 rfl ?_
                refine V.iret dX11_share_89 (Nat.le_of_ble_eq_true rfl) (Nat.le_of_ble_eq_true rfl) ?_
                refine pr_post (hzz.trans ?_) hp
                first | (rw [if_pos (by omega)]; first | (rw [decide_eq_true c60]; rfl) | (rw [decide_eq_false c60]; rfl)) | (rw [if_neg (by omega), if_pos c76]) | (rw [if_neg (by omega), if_neg c76])
            · rw [nI_leI (by decide) (by omega)] at c52
              refine V.aload_n (i := 0) dX11_share_55 rfl rfl ?_
              refine V.iload_n (i := 1) dX11_share_56 rfl rfl ?_
              refine V.iload_n (i := 2) dX11_share_57 rfl rfl ?_
              refine V.iload_n (i := 3) dX11_share_58 rfl rfl ?_
              refine V.iconst dX11_share_59 ic_1 ?_
              refine V.icmp_ne (tgt := 67) dX11_share_60 rfl (fun c60 => ?_) (fun c60 => ?_)
              · rw [nI_eq (by omega) (by decide)] at c60
                refine V.iconst dX11_share_67 ic_0 ?_
                refine V.cq3D hE dX11_share_68 lk_X11_229 rfl (c_counted hE j k _ hj hI ⟨rfl, rfl⟩) (by decide) (by decide) (Nat.le_of_ble_eq_true rfl) (Nat.le_of_ble_eq_true rfl) (Nat.le_of_ble_eq_true rfl) ?_
                refine V.goto (tgt := 89) dX11_share_71 rfl ?_
                refine V.iret dX11_share_89 (Nat.le_of_ble_eq_true rfl) (Nat.le_of_ble_eq_true rfl) ?_
                refine pr_post (hzz.trans ?_) hp
                first | (rw [if_pos (by omega)]; first | (rw [decide_eq_true c60]; rfl) | (rw [decide_eq_false c60]; rfl)) | (rw [if_neg (by omega), if_pos c76]) | (rw [if_neg (by omega), if_neg c76])
              · rw [nI_eq (by omega) (by decide)] at c60
                refine V.iconst dX11_share_63 ic_1 ?_
                refine V.goto (tgt := 68) dX11_share_64 rfl ?_
                refine V.cq3D hE dX11_share_68 lk_X11_229 rfl (c_counted hE j k _ hj hI ⟨rfl, rfl⟩) (by decide) (by decide) (Nat.le_of_ble_eq_true rfl) (Nat.le_of_ble_eq_true rfl) (Nat.le_of_ble_eq_true rfl) ?_
                refine V.goto (tgt := 89) dX11_share_71 rfl ?_
                refine V.iret dX11_share_89 (Nat.le_of_ble_eq_true rfl) (Nat.le_of_ble_eq_true rfl) ?_
                refine pr_post (hzz.trans ?_) hp
                first | (rw [if_pos (by omega)]; first | (rw [decide_eq_true c60]; rfl) | (rw [decide_eq_false c60]; rfl)) | (rw [if_neg (by omega), if_pos c76]) | (rw [if_neg (by omega), if_neg c76])
          · refine V.aload_n (i := 0) dX11_share_44 rfl rfl ?_
            refine V.iconst dX11_share_45 ic_1 ?_
            refine V.cq1D hE dX11_share_46 lk_X11_137 rfl (c_finding hE _ (by decide) ⟨rfl, rfl⟩) (by decide) (by decide) (Nat.le_of_ble_eq_true rfl) (Nat.le_of_ble_eq_true rfl) (Nat.le_of_ble_eq_true rfl) ?_
            refine V.iret dX11_share_49 (Nat.le_of_ble_eq_true rfl) (Nat.le_of_ble_eq_true rfl) ?_
            exact pr_post (if_neg (by rw [hz]; omega)) hp
      · refine V.iconst dX11_share_24 ic_3 ?_
        refine V.goto (tgt := 29) dX11_share_25 rfl ?_
        refine V.as (nI (groupTop j)) (by rcases (show j = 0 ∨ j = 1 ∨ j = 2 by omega) with rfl | rfl | rfl <;> first | rfl | exact absurd (by decide) c12 | exact absurd c12 (by decide) | exact absurd (by decide) c21 | exact absurd c21 (by decide)) ?_
        refine V.cs3D dX11_share_29 lk_X11_124 (c_isInN _ 0 (groupTop j) (by decide) (by omega) ⟨rfl, rfl⟩) (by decide) (by decide) (Nat.le_of_ble_eq_true rfl) (Nat.le_of_ble_eq_true rfl) (Nat.le_of_ble_eq_true rfl) ?_
        refine V.ifb_eq (tgt := 44) dX11_share_32 rfl (fun c32 => ?_) (fun c32 => ?_)
        · refine V.aload_n (i := 0) dX11_share_44 rfl rfl ?_
          refine V.iconst dX11_share_45 ic_1 ?_
          refine V.cq1D hE dX11_share_46 lk_X11_137 rfl (c_finding hE _ (by decide) ⟨rfl, rfl⟩) (by decide) (by decide) (Nat.le_of_ble_eq_true rfl) (Nat.le_of_ble_eq_true rfl) (Nat.le_of_ble_eq_true rfl) ?_
          refine V.iret dX11_share_49 (Nat.le_of_ble_eq_true rfl) (Nat.le_of_ble_eq_true rfl) ?_
          exact pr_post (if_neg (by rw [hz]; omega)) hp
        · refine V.iload_n (i := 3) dX11_share_35 rfl rfl ?_
          refine V.iconst dX11_share_36 ic_0 ?_
          refine V.iconst dX11_share_37 ic_2 ?_
          refine V.cs3D dX11_share_38 lk_X11_124 (c_isInN _ 0 2 (by decide) (by decide) ⟨rfl, rfl⟩) (by decide) (by decide) (Nat.le_of_ble_eq_true rfl) (Nat.le_of_ble_eq_true rfl) (Nat.le_of_ble_eq_true rfl) ?_
          refine V.ifb_ne (tgt := 50) dX11_share_41 rfl (fun c41 => ?_) (fun c41 => ?_)
          · obtain ⟨i, hi, rfl⟩ := idxOf (x := w) (n := 3) (by omega)
            have hzz : s_share G (nI j) k (nI i) = (if i < 2 then nI (counted G j k (decide (i = 1))) else if j = 2 then nI 0 else b2 (darkB G j k = true), G) := by
              unfold s_share
              rw [tn_nI (by omega), tn_nI (by omega), if_pos (by omega)]
            refine V.iload_n (i := 3) dX11_share_50 rfl rfl ?_
            refine V.iconst dX11_share_51 ic_2 ?_
            refine V.icmp_ge (tgt := 74) dX11_share_52 rfl (fun c52 => ?_) (fun c52 => ?_)
            · rw [nI_leI (by decide) (by omega)] at c52
              refine V.iload_n (i := 1) dX11_share_74 rfl rfl ?_
              refine V.iconst dX11_share_75 ic_2 ?_
              refine V.icmp_ne (tgt := 83) dX11_share_76 rfl (fun c76 => ?_) (fun c76 => ?_)
              · rw [nI_eq (by omega) (by decide)] at c76
                refine V.aload_n (i := 0) dX11_share_83 rfl rfl ?_
                refine V.iload_n (i := 1) dX11_share_84 rfl rfl ?_
                refine V.iload_n (i := 2) dX11_share_85 rfl rfl ?_
                refine V.cq2D hE dX11_share_86 lk_X11_213 rfl (c_darkOf hE j k hj hI ⟨rfl, rfl⟩) (by decide) (by decide) (Nat.le_of_ble_eq_true rfl) (Nat.le_of_ble_eq_true rfl) (Nat.le_of_ble_eq_true rfl) ?_
                refine V.iret dX11_share_89 (Nat.le_of_ble_eq_true rfl) (Nat.le_of_ble_eq_true rfl) ?_
                refine pr_post (hzz.trans ?_) hp
                first | (rw [if_pos (by omega)]; first | (rw [decide_eq_true c60]; rfl) | (rw [decide_eq_false c60]; rfl)) | (rw [if_neg (by omega), if_pos c76]) | (rw [if_neg (by omega), if_neg c76])
              · rw [nI_eq (by omega) (by decide)] at c76
                refine V.iconst dX11_share_79 ic_0 ?_
                refine V.goto (tgt := 89) dX11_share_80 rfl ?_
                refine V.iret dX11_share_89 (Nat.le_of_ble_eq_true rfl) (Nat.le_of_ble_eq_true rfl) ?_
                refine pr_post (hzz.trans ?_) hp
                first | (rw [if_pos (by omega)]; first | (rw [decide_eq_true c60]; rfl) | (rw [decide_eq_false c60]; rfl)) | (rw [if_neg (by omega), if_pos c76]) | (rw [if_neg (by omega), if_neg c76])
            · rw [nI_leI (by decide) (by omega)] at c52
              refine V.aload_n (i := 0) dX11_share_55 rfl rfl ?_
              refine V.iload_n (i := 1) dX11_share_56 rfl rfl ?_
              refine V.iload_n (i := 2) dX11_share_57 rfl rfl ?_
              refine V.iload_n (i := 3) dX11_share_58 rfl rfl ?_
              refine V.iconst dX11_share_59 ic_1 ?_
              refine V.icmp_ne (tgt := 67) dX11_share_60 rfl (fun c60 => ?_) (fun c60 => ?_)
              · rw [nI_eq (by omega) (by decide)] at c60
                refine V.iconst dX11_share_67 ic_0 ?_
                refine V.cq3D hE dX11_share_68 lk_X11_229 rfl (c_counted hE j k _ hj hI ⟨rfl, rfl⟩) (by decide) (by decide) (Nat.le_of_ble_eq_true rfl) (Nat.le_of_ble_eq_true rfl) (Nat.le_of_ble_eq_true rfl) ?_
                refine V.goto (tgt := 89) dX11_share_71 rfl ?_
                refine V.iret dX11_share_89 (Nat.le_of_ble_eq_true rfl) (Nat.le_of_ble_eq_true rfl) ?_
                refine pr_post (hzz.trans ?_) hp
                first | (rw [if_pos (by omega)]; first | (rw [decide_eq_true c60]; rfl) | (rw [decide_eq_false c60]; rfl)) | (rw [if_neg (by omega), if_pos c76]) | (rw [if_neg (by omega), if_neg c76])
              · rw [nI_eq (by omega) (by decide)] at c60
                refine V.iconst dX11_share_63 ic_1 ?_
                refine V.goto (tgt := 68) dX11_share_64 rfl ?_
                refine V.cq3D hE dX11_share_68 lk_X11_229 rfl (c_counted hE j k _ hj hI ⟨rfl, rfl⟩) (by decide) (by decide) (Nat.le_of_ble_eq_true rfl) (Nat.le_of_ble_eq_true rfl) (Nat.le_of_ble_eq_true rfl) ?_
                refine V.goto (tgt := 89) dX11_share_71 rfl ?_
                refine V.iret dX11_share_89 (Nat.le_of_ble_eq_true rfl) (Nat.le_of_ble_eq_true rfl) ?_
                refine pr_post (hzz.trans ?_) hp
                first | (rw [if_pos (by omega)]; first | (rw [decide_eq_true c60]; rfl) | (rw [decide_eq_false c60]; rfl)) | (rw [if_neg (by omega), if_pos c76]) | (rw [if_neg (by omega), if_neg c76])
          · refine V.aload_n (i := 0) dX11_share_44 rfl rfl ?_
            refine V.iconst dX11_share_45 ic_1 ?_
            refine V.cq1D hE dX11_share_46 lk_X11_137 rfl (c_finding hE _ (by decide) ⟨rfl, rfl⟩) (by decide) (by decide) (Nat.le_of_ble_eq_true rfl) (Nat.le_of_ble_eq_true rfl) (Nat.le_of_ble_eq_true rfl) ?_
            refine V.iret dX11_share_49 (Nat.le_of_ble_eq_true rfl) (Nat.le_of_ble_eq_true rfl) ?_
            exact pr_post (if_neg (by rw [hz]; omega)) hp
    · refine V.iconst dX11_share_15 ic_5 ?_
      refine V.goto (tgt := 29) dX11_share_16 rfl ?_
      refine V.as (nI (groupTop j)) (by rcases (show j = 0 ∨ j = 1 ∨ j = 2 by omega) with rfl | rfl | rfl <;> first | rfl | exact absurd (by decide) c12 | exact absurd c12 (by decide) | exact absurd (by decide) c21 | exact absurd c21 (by decide)) ?_
      refine V.cs3D dX11_share_29 lk_X11_124 (c_isInN _ 0 (groupTop j) (by decide) (by omega) ⟨rfl, rfl⟩) (by decide) (by decide) (Nat.le_of_ble_eq_true rfl) (Nat.le_of_ble_eq_true rfl) (Nat.le_of_ble_eq_true rfl) ?_
      refine V.ifb_eq (tgt := 44) dX11_share_32 rfl (fun c32 => ?_) (fun c32 => ?_)
      · refine V.aload_n (i := 0) dX11_share_44 rfl rfl ?_
        refine V.iconst dX11_share_45 ic_1 ?_
        refine V.cq1D hE dX11_share_46 lk_X11_137 rfl (c_finding hE _ (by decide) ⟨rfl, rfl⟩) (by decide) (by decide) (Nat.le_of_ble_eq_true rfl) (Nat.le_of_ble_eq_true rfl) (Nat.le_of_ble_eq_true rfl) ?_
        refine V.iret dX11_share_49 (Nat.le_of_ble_eq_true rfl) (Nat.le_of_ble_eq_true rfl) ?_
        exact pr_post (if_neg (by rw [hz]; omega)) hp
      · refine V.iload_n (i := 3) dX11_share_35 rfl rfl ?_
        refine V.iconst dX11_share_36 ic_0 ?_
        refine V.iconst dX11_share_37 ic_2 ?_
        refine V.cs3D dX11_share_38 lk_X11_124 (c_isInN _ 0 2 (by decide) (by decide) ⟨rfl, rfl⟩) (by decide) (by decide) (Nat.le_of_ble_eq_true rfl) (Nat.le_of_ble_eq_true rfl) (Nat.le_of_ble_eq_true rfl) ?_
        refine V.ifb_ne (tgt := 50) dX11_share_41 rfl (fun c41 => ?_) (fun c41 => ?_)
        · obtain ⟨i, hi, rfl⟩ := idxOf (x := w) (n := 3) (by omega)
          have hzz : s_share G (nI j) k (nI i) = (if i < 2 then nI (counted G j k (decide (i = 1))) else if j = 2 then nI 0 else b2 (darkB G j k = true), G) := by
            unfold s_share
            rw [tn_nI (by omega), tn_nI (by omega), if_pos (by omega)]
          refine V.iload_n (i := 3) dX11_share_50 rfl rfl ?_
          refine V.iconst dX11_share_51 ic_2 ?_
          refine V.icmp_ge (tgt := 74) dX11_share_52 rfl (fun c52 => ?_) (fun c52 => ?_)
          · rw [nI_leI (by decide) (by omega)] at c52
            refine V.iload_n (i := 1) dX11_share_74 rfl rfl ?_
            refine V.iconst dX11_share_75 ic_2 ?_
            refine V.icmp_ne (tgt := 83) dX11_share_76 rfl (fun c76 => ?_) (fun c76 => ?_)
            · rw [nI_eq (by omega) (by decide)] at c76
              refine V.aload_n (i := 0) dX11_share_83 rfl rfl ?_
              refine V.iload_n (i := 1) dX11_share_84 rfl rfl ?_
              refine V.iload_n (i := 2) dX11_share_85 rfl rfl ?_
              refine V.cq2D hE dX11_share_86 lk_X11_213 rfl (c_darkOf hE j k hj hI ⟨rfl, rfl⟩) (by decide) (by decide) (Nat.le_of_ble_eq_true rfl) (Nat.le_of_ble_eq_true rfl) (Nat.le_of_ble_eq_true rfl) ?_
              refine V.iret dX11_share_89 (Nat.le_of_ble_eq_true rfl) (Nat.le_of_ble_eq_true rfl) ?_
              refine pr_post (hzz.trans ?_) hp
              first | (rw [if_pos (by omega)]; first | (rw [decide_eq_true c60]; rfl) | (rw [decide_eq_false c60]; rfl)) | (rw [if_neg (by omega), if_pos c76]) | (rw [if_neg (by omega), if_neg c76])
            · rw [nI_eq (by omega) (by decide)] at c76
              refine V.iconst dX11_share_79 ic_0 ?_
              refine V.goto (tgt := 89) dX11_share_80 rfl ?_
              refine V.iret dX11_share_89 (Nat.le_of_ble_eq_true rfl) (Nat.le_of_ble_eq_true rfl) ?_
              refine pr_post (hzz.trans ?_) hp
              first | (rw [if_pos (by omega)]; first | (rw [decide_eq_true c60]; rfl) | (rw [decide_eq_false c60]; rfl)) | (rw [if_neg (by omega), if_pos c76]) | (rw [if_neg (by omega), if_neg c76])
          · rw [nI_leI (by decide) (by omega)] at c52
            refine V.aload_n (i := 0) dX11_share_55 rfl rfl ?_
            refine V.iload_n (i := 1) dX11_share_56 rfl rfl ?_
            refine V.iload_n (i := 2) dX11_share_57 rfl rfl ?_
            refine V.iload_n (i := 3) dX11_share_58 rfl rfl ?_
            refine V.iconst dX11_share_59 ic_1 ?_
            refine V.icmp_ne (tgt := 67) dX11_share_60 rfl (fun c60 => ?_) (fun c60 => ?_)
            · rw [nI_eq (by omega) (by decide)] at c60
              refine V.iconst dX11_share_67 ic_0 ?_
              refine V.cq3D hE dX11_share_68 lk_X11_229 rfl (c_counted hE j k _ hj hI ⟨rfl, rfl⟩) (by decide) (by decide) (Nat.le_of_ble_eq_true rfl) (Nat.le_of_ble_eq_true rfl) (Nat.le_of_ble_eq_true rfl) ?_
              refine V.goto (tgt := 89) dX11_share_71 rfl ?_
              refine V.iret dX11_share_89 (Nat.le_of_ble_eq_true rfl) (Nat.le_of_ble_eq_true rfl) ?_
              refine pr_post (hzz.trans ?_) hp
              first | (rw [if_pos (by omega)]; first | (rw [decide_eq_true c60]; rfl) | (rw [decide_eq_false c60]; rfl)) | (rw [if_neg (by omega), if_pos c76]) | (rw [if_neg (by omega), if_neg c76])
            · rw [nI_eq (by omega) (by decide)] at c60
              refine V.iconst dX11_share_63 ic_1 ?_
              refine V.goto (tgt := 68) dX11_share_64 rfl ?_
              refine V.cq3D hE dX11_share_68 lk_X11_229 rfl (c_counted hE j k _ hj hI ⟨rfl, rfl⟩) (by decide) (by decide) (Nat.le_of_ble_eq_true rfl) (Nat.le_of_ble_eq_true rfl) (Nat.le_of_ble_eq_true rfl) ?_
              refine V.goto (tgt := 89) dX11_share_71 rfl ?_
              refine V.iret dX11_share_89 (Nat.le_of_ble_eq_true rfl) (Nat.le_of_ble_eq_true rfl) ?_
              refine pr_post (hzz.trans ?_) hp
              first | (rw [if_pos (by omega)]; first | (rw [decide_eq_true c60]; rfl) | (rw [decide_eq_false c60]; rfl)) | (rw [if_neg (by omega), if_pos c76]) | (rw [if_neg (by omega), if_neg c76])
        · refine V.aload_n (i := 0) dX11_share_44 rfl rfl ?_
          refine V.iconst dX11_share_45 ic_1 ?_
          refine V.cq1D hE dX11_share_46 lk_X11_137 rfl (c_finding hE _ (by decide) ⟨rfl, rfl⟩) (by decide) (by decide) (Nat.le_of_ble_eq_true rfl) (Nat.le_of_ble_eq_true rfl) (Nat.le_of_ble_eq_true rfl) ?_
          refine V.iret dX11_share_49 (Nat.le_of_ble_eq_true rfl) (Nat.le_of_ble_eq_true rfl) ?_
          exact pr_post (if_neg (by rw [hz]; omega)) hp
  · skip
    refine V.iload_n (i := 1) dX11_share_0 rfl rfl ?_
    refine V.iconst dX11_share_1 ic_0 ?_
    refine V.iconst dX11_share_2 ic_2 ?_
    refine V.cs3D dX11_share_3 lk_X11_124 (c_isInN _ 0 2 (by decide) (by decide) ⟨rfl, rfl⟩) (by decide) (by decide) (Nat.le_of_ble_eq_true rfl) (Nat.le_of_ble_eq_true rfl) (Nat.le_of_ble_eq_true rfl) ?_
    refine V.ifb_eqT (tgt := 44) dX11_share_6 rfl (by simpa using hos) ?_
    refine V.aload_n (i := 0) dX11_share_44 rfl rfl ?_
    refine V.iconst dX11_share_45 ic_1 ?_
    refine V.cq1D hE dX11_share_46 lk_X11_137 rfl (c_finding hE _ (by decide) ⟨rfl, rfl⟩) (by decide) (by decide) (Nat.le_of_ble_eq_true rfl) (Nat.le_of_ble_eq_true rfl) (Nat.le_of_ble_eq_true rfl) ?_
    refine V.iret dX11_share_49 (Nat.le_of_ble_eq_true rfl) (Nat.le_of_ble_eq_true rfl) ?_
    exact pr_post (if_neg (by omega)) hp
end REF7

