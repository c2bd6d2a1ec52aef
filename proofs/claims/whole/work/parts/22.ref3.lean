/-! ===== the model: a ship comes, calls, the tape ===== -/
theorem openK_lt (G : GS) (s : Int32) : ∀ n c, openK G s n = some c → c < n
  | 0, c, h => by cases h
  | n + 1, c, h => by
    unfold openK at h
    split at h
    · cases h; omega
    · have := openK_lt G s n c h; omega
section REF3
variable {E : VE} {σ : Sg} {G : GS} {post : Option Value → Sg → Prop}
set_option maxRecDepth 100000 in
theorem c_ship (hE : eF E = true) (of as on : Int32) (hI : Inv G) (hp : post (some (.int (s_ship G of as on).1)) (wG σ (s_ship G of as on).2)) : MX11_ship E 2 0 0 [.ref (eQ E 48), .int of, .int as, .int on] (wG σ G) post := by
  refine MA.of RX11 "ship" [some (.ref (eQ E 48)), some (.int of), some (.int as), some (.int on)] rfl rfl rfl (catAll rfl) (Nat.le_of_ble_eq_true rfl) rfl (fun X => ?_)
  have hn := hI.shN
  refine V.iload_n (i := 1) dX11_ship_0 rfl rfl ?_
  refine V.if_lt (tgt := 54) dX11_ship_1 rfl (fun c1 => ?_) (fun c1 => ?_)
  · rw [lt0] at c1
    refine V.aload_n (i := 0) dX11_ship_54 rfl rfl ?_
    refine V.iconst dX11_ship_55 ic_1 ?_
    refine V.cq1D hE dX11_ship_56 lk_X11_137 rfl (c_finding hE _ (by decide) ⟨rfl, rfl⟩) (by decide) (by decide) (Nat.le_of_ble_eq_true rfl) (Nat.le_of_ble_eq_true rfl) (Nat.le_of_ble_eq_true rfl) ?_
    refine V.iret dX11_ship_59 (Nat.le_of_ble_eq_true rfl) (Nat.le_of_ble_eq_true rfl) ?_
    exact pr_post (if_neg (by omega)) hp
  · obtain ⟨n, hnl, rfl⟩ := nI_of c1
    have hof := toI n hnl
    refine V.iload_n (i := 1) dX11_ship_4 rfl rfl ?_
    refine V.bipush dX11_ship_5 bc_10 ?_
    refine V.idiv dX11_ship_7 (by decide) ?_
    refine V.as _ (pk_div hnl (by decide) (by decide)) ?_
    refine V.iconst dX11_ship_8 ic_3 ?_
    refine V.icmp_gt (tgt := 54) dX11_ship_9 rfl (fun c9 => ?_) (fun c9 => ?_)
    · rw [nI_ltI (by decide) (by omega)] at c9
      refine V.aload_n (i := 0) dX11_ship_54 rfl rfl ?_
      refine V.iconst dX11_ship_55 ic_1 ?_
      refine V.cq1D hE dX11_ship_56 lk_X11_137 rfl (c_finding hE _ (by decide) ⟨rfl, rfl⟩) (by decide) (by decide) (Nat.le_of_ble_eq_true rfl) (Nat.le_of_ble_eq_true rfl) (Nat.le_of_ble_eq_true rfl) ?_
      refine V.iret dX11_ship_59 (Nat.le_of_ble_eq_true rfl) (Nat.le_of_ble_eq_true rfl) ?_
      exact pr_post (if_neg (by omega)) hp
    · rw [nI_ltI (by decide) (by omega)] at c9
      refine V.iload_n (i := 1) dX11_ship_12 rfl rfl ?_
      refine V.bipush dX11_ship_13 bc_10 ?_
      refine V.irem dX11_ship_15 (by decide) ?_
      refine V.as _ (pk_rem hnl (by decide) (by decide)) ?_
      refine V.iconst dX11_ship_16 ic_3 ?_
      refine V.icmp_gt (tgt := 54) dX11_ship_17 rfl (fun c17 => ?_) (fun c17 => ?_)
      · rw [nI_ltI (by decide) (by omega)] at c17
        refine V.aload_n (i := 0) dX11_ship_54 rfl rfl ?_
        refine V.iconst dX11_ship_55 ic_1 ?_
        refine V.cq1D hE dX11_ship_56 lk_X11_137 rfl (c_finding hE _ (by decide) ⟨rfl, rfl⟩) (by decide) (by decide) (Nat.le_of_ble_eq_true rfl) (Nat.le_of_ble_eq_true rfl) (Nat.le_of_ble_eq_true rfl) ?_
        refine V.iret dX11_ship_59 (Nat.le_of_ble_eq_true rfl) (Nat.le_of_ble_eq_true rfl) ?_
        exact pr_post (if_neg (by omega)) hp
      · rw [nI_ltI (by decide) (by omega)] at c17
        refine V.iload_n (i := 2) dX11_ship_20 rfl rfl ?_
        refine V.if_lt (tgt := 54) dX11_ship_21 rfl (fun c21 => ?_) (fun c21 => ?_)
        · rw [lt0] at c21
          refine V.aload_n (i := 0) dX11_ship_54 rfl rfl ?_
          refine V.iconst dX11_ship_55 ic_1 ?_
          refine V.cq1D hE dX11_ship_56 lk_X11_137 rfl (c_finding hE _ (by decide) ⟨rfl, rfl⟩) (by decide) (by decide) (Nat.le_of_ble_eq_true rfl) (Nat.le_of_ble_eq_true rfl) (Nat.le_of_ble_eq_true rfl) ?_
          refine V.iret dX11_ship_59 (Nat.le_of_ble_eq_true rfl) (Nat.le_of_ble_eq_true rfl) ?_
          exact pr_post (if_neg (by omega)) hp
        · obtain ⟨m, hml, rfl⟩ := nI_of c21
          have has := toI m hml
          refine V.iload_n (i := 2) dX11_ship_24 rfl rfl ?_
          refine V.bipush dX11_ship_25 bc_100 ?_
          refine V.idiv dX11_ship_27 (by decide) ?_
          refine V.as _ (pk_div hml (by decide) (by decide)) ?_
          refine V.bipush dX11_ship_28 bc_100 ?_
          refine V.icmp_ge (tgt := 54) dX11_ship_30 rfl (fun c30 => ?_) (fun c30 => ?_)
          · rw [nI_leI (by decide) (by omega)] at c30
            refine V.aload_n (i := 0) dX11_ship_54 rfl rfl ?_
            refine V.iconst dX11_ship_55 ic_1 ?_
            refine V.cq1D hE dX11_ship_56 lk_X11_137 rfl (c_finding hE _ (by decide) ⟨rfl, rfl⟩) (by decide) (by decide) (Nat.le_of_ble_eq_true rfl) (Nat.le_of_ble_eq_true rfl) (Nat.le_of_ble_eq_true rfl) ?_
            refine V.iret dX11_ship_59 (Nat.le_of_ble_eq_true rfl) (Nat.le_of_ble_eq_true rfl) ?_
            exact pr_post (if_neg (by omega)) hp
          · rw [nI_leI (by decide) (by omega)] at c30
            refine V.iload_n (i := 2) dX11_ship_33 rfl rfl ?_
            refine V.bipush dX11_ship_34 bc_10 ?_
            refine V.irem dX11_ship_36 (by decide) ?_
            refine V.as _ (pk_rem hml (by decide) (by decide)) ?_
            refine V.bipush dX11_ship_37 bc_6 ?_
            refine V.icmp_ge (tgt := 54) dX11_ship_39 rfl (fun c39 => ?_) (fun c39 => ?_)
            · rw [nI_leI (by decide) (by omega)] at c39
              refine V.aload_n (i := 0) dX11_ship_54 rfl rfl ?_
              refine V.iconst dX11_ship_55 ic_1 ?_
              refine V.cq1D hE dX11_ship_56 lk_X11_137 rfl (c_finding hE _ (by decide) ⟨rfl, rfl⟩) (by decide) (by decide) (Nat.le_of_ble_eq_true rfl) (Nat.le_of_ble_eq_true rfl) (Nat.le_of_ble_eq_true rfl) ?_
              refine V.iret dX11_ship_59 (Nat.le_of_ble_eq_true rfl) (Nat.le_of_ble_eq_true rfl) ?_
              exact pr_post (if_neg (by omega)) hp
            · rw [nI_leI (by decide) (by omega)] at c39
              refine V.iload_n (i := 3) dX11_ship_42 rfl rfl ?_
              refine V.iconst dX11_ship_43 ic_0 ?_
              refine V.aload_n (i := 0) dX11_ship_44 rfl rfl ?_
              refine V.mgeti hE dX11_ship_45 fl_X11_134 rfl ?_
              refine V.cs3D dX11_ship_48 lk_X11_124 (c_isIn _ _ _ ⟨rfl, rfl⟩) (by decide) (by decide) (Nat.le_of_ble_eq_true rfl) (Nat.le_of_ble_eq_true rfl) (Nat.le_of_ble_eq_true rfl) ?_
              refine V.ifb_ne (tgt := 60) dX11_ship_51 rfl (fun c51 => ?_) (fun c51 => ?_)
              · rw [fa_le, fa_le, toI 0 (by decide)] at c51
                refine V.aload_n (i := 0) dX11_ship_60 rfl rfl ?_
                refine V.mgeti hE dX11_ship_61 fl_X11_121 rfl ?_
                refine V.bipush dX11_ship_64 bc_16 ?_
                refine V.icmp_ne (tgt := 75) dX11_ship_66 rfl (fun c66 => ?_) (fun c66 => ?_)
                · have hne : nSh G ≠ 16 := fun e => c66 (by rw [hn.1, e])
                  refine V.aload_n (i := 0) dX11_ship_75 rfl rfl ?_
                  refine V.mgeta hE dX11_ship_76 fl_X11_7 rfl ?_
                  refine V.aload_n (i := 0) dX11_ship_79 rfl rfl ?_
                  refine V.mgeti hE dX11_ship_80 fl_X11_121 rfl ?_
                  refine V.iload_n (i := 1) dX11_ship_83 rfl rfl ?_
                  refine V.bipush dX11_ship_84 bc_10 ?_
                  refine V.idiv dX11_ship_86 (by decide) ?_
                  refine V.as _ (pk_div hnl (by decide) (by decide)) ?_
                  refine V.miast hE dX11_ship_87 rfl rfl hn.1 (show _ < 16 from (by omega)) ?_
                  refine V.aload_n (i := 0) dX11_ship_88 rfl rfl ?_
                  refine V.mgeta hE dX11_ship_89 fl_X11_13 rfl ?_
                  refine V.aload_n (i := 0) dX11_ship_92 rfl rfl ?_
                  refine V.mgeti hE dX11_ship_93 fl_X11_121 rfl ?_
                  refine V.iload_n (i := 1) dX11_ship_96 rfl rfl ?_
                  refine V.bipush dX11_ship_97 bc_10 ?_
                  refine V.irem dX11_ship_99 (by decide) ?_
                  refine V.as _ (pk_rem hnl (by decide) (by decide)) ?_
                  refine V.miast hE dX11_ship_100 rfl rfl hn.1 (show _ < 16 from (by omega)) ?_
                  refine V.aload_n (i := 0) dX11_ship_101 rfl rfl ?_
                  refine V.mgeta hE dX11_ship_102 fl_X11_16 rfl ?_
                  refine V.aload_n (i := 0) dX11_ship_105 rfl rfl ?_
                  refine V.mgeti hE dX11_ship_106 fl_X11_121 rfl ?_
                  refine V.iload_n (i := 3) dX11_ship_109 rfl rfl ?_
                  refine V.miast hE dX11_ship_110 rfl rfl hn.1 (show _ < 16 from (by omega)) ?_
                  refine V.aload_n (i := 0) dX11_ship_111 rfl rfl ?_
                  refine V.mgeta hE dX11_ship_112 fl_X11_19 rfl ?_
                  refine V.iconst dX11_ship_115 ic_3 ?_
                  refine V.aload_n (i := 0) dX11_ship_116 rfl rfl ?_
                  refine V.mgeti hE dX11_ship_117 fl_X11_121 rfl ?_
                  refine V.imul dX11_ship_120 ?_
                  refine V.as (nI (3 * nSh G)) (show nI 3 * G 1 0 = _ by rw [hn.1, pk_mul]) ?_
                  refine V.iload_n (i := 2) dX11_ship_121 rfl rfl ?_
                  refine V.bipush dX11_ship_122 bc_100 ?_
                  refine V.idiv dX11_ship_124 (by decide) ?_
                  refine V.as _ (pk_div hml (by decide) (by decide)) ?_
                  refine V.miast hE dX11_ship_125 rfl rfl rfl (show _ < 48 from (by omega)) ?_
                  refine V.aload_n (i := 0) dX11_ship_126 rfl rfl ?_
                  refine V.mgeta hE dX11_ship_127 fl_X11_19 rfl ?_
                  refine V.iconst dX11_ship_130 ic_3 ?_
                  refine V.aload_n (i := 0) dX11_ship_131 rfl rfl ?_
                  refine V.mgeti hE dX11_ship_132 fl_X11_121 rfl ?_
                  refine V.imul dX11_ship_135 ?_
                  refine V.iconst dX11_ship_136 ic_1 ?_
                  refine V.iadd dX11_ship_137 ?_
                  refine V.as (nI (3 * nSh G + 1)) (show nI 3 * G 1 0 + nI 1 = _ by rw [hn.1, pk_mul, nI_add]) ?_
                  refine V.iload_n (i := 2) dX11_ship_138 rfl rfl ?_
                  refine V.bipush dX11_ship_139 bc_10 ?_
                  refine V.irem dX11_ship_141 (by decide) ?_
                  refine V.as _ (pk_rem hml (by decide) (by decide)) ?_
                  refine V.miast hE dX11_ship_142 rfl rfl rfl (show _ < 48 from (by omega)) ?_
                  refine V.aload_n (i := 0) dX11_ship_143 rfl rfl ?_
                  refine V.mgeta hE dX11_ship_144 fl_X11_19 rfl ?_
                  refine V.iconst dX11_ship_147 ic_3 ?_
                  refine V.aload_n (i := 0) dX11_ship_148 rfl rfl ?_
                  refine V.mgeti hE dX11_ship_149 fl_X11_121 rfl ?_
                  refine V.imul dX11_ship_152 ?_
                  refine V.iconst dX11_ship_153 ic_2 ?_
                  refine V.iadd dX11_ship_154 ?_
                  refine V.as (nI (3 * nSh G + 2)) (show nI 3 * G 1 0 + nI 2 = _ by rw [hn.1, pk_mul, nI_add]) ?_
                  refine V.iload_n (i := 2) dX11_ship_155 rfl rfl ?_
                  refine V.bipush dX11_ship_156 bc_10 ?_
                  refine V.idiv dX11_ship_158 (by decide) ?_
                  refine V.as _ (pk_div hml (by decide) (by decide)) ?_
                  refine V.bipush dX11_ship_159 bc_10 ?_
                  refine V.irem dX11_ship_161 (by decide) ?_
                  refine V.as _ (pk_rem (by omega) (by decide) (by decide)) ?_
                  refine V.miast hE dX11_ship_162 rfl rfl rfl (show _ < 48 from (by omega)) ?_
                  refine V.aload_n (i := 0) dX11_ship_163 rfl rfl ?_
                  refine V.dup dX11_ship_164 rfl ?_
                  refine V.mgeti hE dX11_ship_165 fl_X11_121 rfl ?_
                  refine V.iconst dX11_ship_168 ic_1 ?_
                  refine V.iadd dX11_ship_169 ?_
                  refine V.as (nI (nSh G + 1)) (show G 1 0 + nI 1 = _ by rw [hn.1, nI_add]) ?_
                  refine V.mputi hE dX11_ship_170 fl_X11_121 rfl rfl rfl ?_
                  refine V.aload_n (i := 0) dX11_ship_173 rfl rfl ?_
                  refine V.mgeti hE dX11_ship_174 fl_X11_121 rfl ?_
                  refine V.iconst dX11_ship_177 ic_1 ?_
                  refine V.isub dX11_ship_178 ?_
                  refine V.as (nI (nSh G)) (show nI (nSh G + 1) - nI 1 = _ from pk_sub (by omega)) ?_
                  refine V.iret dX11_ship_179 (Nat.le_of_ble_eq_true rfl) (Nat.le_of_ble_eq_true rfl) ?_
                  exact pr_post ((if_pos (by omega)).trans ((if_neg hne).trans (by rw [tn_nI (by omega), tn_nI (by omega)]))) hp
                · refine V.aload_n (i := 0) dX11_ship_69 rfl rfl ?_
                  refine V.iconst dX11_ship_70 ic_4 ?_
                  refine V.cq1D hE dX11_ship_71 lk_X11_137 rfl (c_finding hE _ (by decide) ⟨rfl, rfl⟩) (by decide) (by decide) (Nat.le_of_ble_eq_true rfl) (Nat.le_of_ble_eq_true rfl) (Nat.le_of_ble_eq_true rfl) ?_
                  refine V.iret dX11_ship_74 (Nat.le_of_ble_eq_true rfl) (Nat.le_of_ble_eq_true rfl) ?_
                  exact pr_post ((if_pos (by omega)).trans (if_pos (by have := hn.1.symm.trans c66; exact (nI_eq (by omega) (by decide)).mp this))) hp
              · rw [fa_le, fa_le, toI 0 (by decide)] at c51
                refine V.aload_n (i := 0) dX11_ship_54 rfl rfl ?_
                refine V.iconst dX11_ship_55 ic_1 ?_
                refine V.cq1D hE dX11_ship_56 lk_X11_137 rfl (c_finding hE _ (by decide) ⟨rfl, rfl⟩) (by decide) (by decide) (Nat.le_of_ble_eq_true rfl) (Nat.le_of_ble_eq_true rfl) (Nat.le_of_ble_eq_true rfl) ?_
                refine V.iret dX11_ship_59 (Nat.le_of_ble_eq_true rfl) (Nat.le_of_ble_eq_true rfl) ?_
                exact pr_post (if_neg (by omega)) hp
set_option maxRecDepth 100000 in
theorem c_call (hE : eF E = true) (s port : Int32) (hI : Inv G) (hp : post (some (.int (s_call G s port).1)) (wG σ (s_call G s port).2)) : MX11_call E 3 0 0 [.ref (eQ E 48), .int s, .int port] (wG σ G) post := by
  refine MA.of RX11 "call" [some (.ref (eQ E 48)), some (.int s), some (.int port)] rfl rfl rfl (catAll rfl) (Nat.le_of_ble_eq_true rfl) rfl (fun X => ?_)
  have hn := hI.caN
  have h16 := hI.shN.2
  refine V.aload_n (i := 0) dX11_call_0 rfl rfl ?_
  refine V.iload_n (i := 1) dX11_call_1 rfl rfl ?_
  refine V.cq1D hE dX11_call_2 lk_X11_141 rfl (c_isShip hE _ hI ⟨rfl, rfl⟩) (by decide) (by decide) (Nat.le_of_ble_eq_true rfl) (Nat.le_of_ble_eq_true rfl) (Nat.le_of_ble_eq_true rfl) ?_
  refine V.ifb_eq (tgt := 17) dX11_call_5 rfl (fun c5 => ?_) (fun c5 => ?_)
  · refine V.aload_n (i := 0) dX11_call_17 rfl rfl ?_
    refine V.iconst dX11_call_18 ic_1 ?_
    refine V.cq1D hE dX11_call_19 lk_X11_137 rfl (c_finding hE _ (by decide) ⟨rfl, rfl⟩) (by decide) (by decide) (Nat.le_of_ble_eq_true rfl) (Nat.le_of_ble_eq_true rfl) (Nat.le_of_ble_eq_true rfl) ?_
    refine V.iret dX11_call_22 (Nat.le_of_ble_eq_true rfl) (Nat.le_of_ble_eq_true rfl) ?_
    exact pr_post (if_neg (by omega)) hp
  · refine V.iload_n (i := 2) dX11_call_8 rfl rfl ?_
    refine V.iconst dX11_call_9 ic_0 ?_
    refine V.iconst dX11_call_10 ic_4 ?_
    refine V.cs3D dX11_call_11 lk_X11_124 (c_isInN _ 0 4 (by decide) (by decide) ⟨rfl, rfl⟩) (by decide) (by decide) (Nat.le_of_ble_eq_true rfl) (Nat.le_of_ble_eq_true rfl) (Nat.le_of_ble_eq_true rfl) ?_
    refine V.ifb_ne (tgt := 23) dX11_call_14 rfl (fun c14 => ?_) (fun c14 => ?_)
    · obtain ⟨i, hi, rfl⟩ := idxOf c5
      refine V.aload_n (i := 0) dX11_call_23 rfl rfl ?_
      refine V.iload_n (i := 1) dX11_call_24 rfl rfl ?_
      refine V.cq1D hE dX11_call_25 lk_X11_172 rfl (c_openCall hE _ hI ⟨rfl, rfl⟩) (by decide) (by decide) (Nat.le_of_ble_eq_true rfl) (Nat.le_of_ble_eq_true rfl) (Nat.le_of_ble_eq_true rfl) ?_
      refine V.if_ge (tgt := 40) dX11_call_28 rfl (fun c28 => ?_) (fun c28 => ?_)
      · rw [optI_ge _ (fun c h => by have := openK_lt _ _ _ _ h; omega)] at c28
        refine V.aload_n (i := 0) dX11_call_40 rfl rfl ?_
        refine V.iconst dX11_call_41 ic_3 ?_
        refine V.cq1D hE dX11_call_42 lk_X11_137 rfl (c_finding hE _ (by decide) ⟨rfl, rfl⟩) (by decide) (by decide) (Nat.le_of_ble_eq_true rfl) (Nat.le_of_ble_eq_true rfl) (Nat.le_of_ble_eq_true rfl) ?_
        refine V.iret dX11_call_45 (Nat.le_of_ble_eq_true rfl) (Nat.le_of_ble_eq_true rfl) ?_
        exact pr_post ((if_pos (by omega)).trans (if_pos (by first | exact Or.inl c28 | (rw [tn_nI (by omega)]; exact Or.inr c37)))) hp
      · rw [optI_ge _ (fun c h => by have := openK_lt _ _ _ _ h; omega)] at c28
        refine V.aload_n (i := 0) dX11_call_31 rfl rfl ?_
        refine V.mgeta hE dX11_call_32 fl_X11_93 rfl ?_
        refine V.iload_n (i := 1) dX11_call_35 rfl rfl ?_
        refine V.mzald hE dX11_call_36 rfl rfl rfl (show _ < 16 from (by omega)) ?_
        refine V.if_eq (tgt := 46) dX11_call_37 rfl (fun c37 => ?_) (fun c37 => ?_)
        · have hg : ¬ (openOf G (nI i) ≠ none ∨ G 36 (tn (nI i)) ≠ 0) := by rw [tn_nI (by omega)]; exact fun z => z.elim c28 (fun q => q c37)
          refine V.aload_n (i := 0) dX11_call_46 rfl rfl ?_
          refine V.mgeti hE dX11_call_47 fl_X11_128 rfl ?_
          refine V.bipush dX11_call_50 bc_50 ?_
          refine V.icmp_ne (tgt := 61) dX11_call_52 rfl (fun c52 => ?_) (fun c52 => ?_)
          · have hne : nCa G ≠ 50 := fun e => c52 (by rw [hn.1, e])
            refine V.aload_n (i := 0) dX11_call_61 rfl rfl ?_
            refine V.mgeta hE dX11_call_62 fl_X11_37 rfl ?_
            refine V.aload_n (i := 0) dX11_call_65 rfl rfl ?_
            refine V.mgeti hE dX11_call_66 fl_X11_128 rfl ?_
            refine V.iload_n (i := 1) dX11_call_69 rfl rfl ?_
            refine V.miast hE dX11_call_70 rfl rfl hn.1 (show _ < 50 from (by omega)) ?_
            refine V.aload_n (i := 0) dX11_call_71 rfl rfl ?_
            refine V.mgeta hE dX11_call_72 fl_X11_40 rfl ?_
            refine V.aload_n (i := 0) dX11_call_75 rfl rfl ?_
            refine V.mgeti hE dX11_call_76 fl_X11_128 rfl ?_
            refine V.iload_n (i := 2) dX11_call_79 rfl rfl ?_
            refine V.miast hE dX11_call_80 rfl rfl hn.1 (show _ < 50 from (by omega)) ?_
            refine V.aload_n (i := 0) dX11_call_81 rfl rfl ?_
            refine V.mgeta hE dX11_call_82 fl_X11_43 rfl ?_
            refine V.aload_n (i := 0) dX11_call_85 rfl rfl ?_
            refine V.mgeti hE dX11_call_86 fl_X11_128 rfl ?_
            refine V.aload_n (i := 0) dX11_call_89 rfl rfl ?_
            refine V.mgeti hE dX11_call_90 fl_X11_134 rfl ?_
            refine V.miast hE dX11_call_93 rfl rfl hn.1 (show _ < 50 from (by omega)) ?_
            refine V.aload_n (i := 0) dX11_call_94 rfl rfl ?_
            refine V.mgeta hE dX11_call_95 fl_X11_46 rfl ?_
            refine V.aload_n (i := 0) dX11_call_98 rfl rfl ?_
            refine V.mgeti hE dX11_call_99 fl_X11_128 rfl ?_
            refine V.iconst dX11_call_102 ic_m1 ?_
            refine V.miast hE dX11_call_103 rfl rfl hn.1 (show _ < 50 from (by omega)) ?_
            refine V.aload_n (i := 0) dX11_call_104 rfl rfl ?_
            refine V.dup dX11_call_105 rfl ?_
            refine V.mgeti hE dX11_call_106 fl_X11_128 rfl ?_
            refine V.iconst dX11_call_109 ic_1 ?_
            refine V.iadd dX11_call_110 ?_
            refine V.as (nI (nCa G + 1)) (show G 13 0 + nI 1 = _ by rw [hn.1, nI_add]) ?_
            refine V.mputi hE dX11_call_111 fl_X11_128 rfl rfl rfl ?_
            refine V.aload_n (i := 0) dX11_call_114 rfl rfl ?_
            refine V.mgeti hE dX11_call_115 fl_X11_128 rfl ?_
            refine V.iconst dX11_call_118 ic_1 ?_
            refine V.isub dX11_call_119 ?_
            refine V.as (nI (nCa G)) (show nI (nCa G + 1) - nI 1 = _ from pk_sub (by omega)) ?_
            refine V.iret dX11_call_120 (Nat.le_of_ble_eq_true rfl) (Nat.le_of_ble_eq_true rfl) ?_
            exact pr_post ((if_pos (by omega)).trans ((if_neg hg).trans (if_neg hne))) hp
          · refine V.aload_n (i := 0) dX11_call_55 rfl rfl ?_
            refine V.iconst dX11_call_56 ic_4 ?_
            refine V.cq1D hE dX11_call_57 lk_X11_137 rfl (c_finding hE _ (by decide) ⟨rfl, rfl⟩) (by decide) (by decide) (Nat.le_of_ble_eq_true rfl) (Nat.le_of_ble_eq_true rfl) (Nat.le_of_ble_eq_true rfl) ?_
            refine V.iret dX11_call_60 (Nat.le_of_ble_eq_true rfl) (Nat.le_of_ble_eq_true rfl) ?_
            exact pr_post ((if_pos (by omega)).trans ((if_neg hg).trans (if_pos (by have := hn.1.symm.trans c52; exact (nI_eq (by omega) (by decide)).mp this)))) hp
        · refine V.aload_n (i := 0) dX11_call_40 rfl rfl ?_
          refine V.iconst dX11_call_41 ic_3 ?_
          refine V.cq1D hE dX11_call_42 lk_X11_137 rfl (c_finding hE _ (by decide) ⟨rfl, rfl⟩) (by decide) (by decide) (Nat.le_of_ble_eq_true rfl) (Nat.le_of_ble_eq_true rfl) (Nat.le_of_ble_eq_true rfl) ?_
          refine V.iret dX11_call_45 (Nat.le_of_ble_eq_true rfl) (Nat.le_of_ble_eq_true rfl) ?_
          exact pr_post ((if_pos (by omega)).trans (if_pos (by first | exact Or.inl c28 | (rw [tn_nI (by omega)]; exact Or.inr c37)))) hp
    · refine V.aload_n (i := 0) dX11_call_17 rfl rfl ?_
      refine V.iconst dX11_call_18 ic_1 ?_
      refine V.cq1D hE dX11_call_19 lk_X11_137 rfl (c_finding hE _ (by decide) ⟨rfl, rfl⟩) (by decide) (by decide) (Nat.le_of_ble_eq_true rfl) (Nat.le_of_ble_eq_true rfl) (Nat.le_of_ble_eq_true rfl) ?_
      refine V.iret dX11_call_22 (Nat.le_of_ble_eq_true rfl) (Nat.le_of_ble_eq_true rfl) ?_
      exact pr_post (if_neg (by omega)) hp
set_option maxRecDepth 100000 in
theorem c_leave (hE : eF E = true) (c : Int32) (hI : Inv G) (hp : post (some (.int (s_leave G c).1)) (wG σ (s_leave G c).2)) : MX11_leave E 3 0 0 [.ref (eQ E 48), .int c] (wG σ G) post := by
  refine MA.of RX11 "leave" [some (.ref (eQ E 48)), some (.int c)] rfl rfl rfl (catAll rfl) (Nat.le_of_ble_eq_true rfl) rfl (fun X => ?_)
  have h50 := hI.caN.2
  refine V.aload_n (i := 0) dX11_leave_0 rfl rfl ?_
  refine V.iload_n (i := 1) dX11_leave_1 rfl rfl ?_
  refine V.cq1D hE dX11_leave_2 lk_X11_175 rfl (c_isCall hE _ hI ⟨rfl, rfl⟩) (by decide) (by decide) (Nat.le_of_ble_eq_true rfl) (Nat.le_of_ble_eq_true rfl) (Nat.le_of_ble_eq_true rfl) ?_
  refine V.ifb_ne (tgt := 14) dX11_leave_5 rfl (fun c5 => ?_) (fun c5 => ?_)
  · obtain ⟨i, hi, rfl⟩ := idxOf c5
    refine V.aload_n (i := 0) dX11_leave_14 rfl rfl ?_
    refine V.mgeta hE dX11_leave_15 fl_X11_46 rfl ?_
    refine V.iload_n (i := 1) dX11_leave_18 rfl rfl ?_
    refine V.miald hE dX11_leave_19 rfl rfl rfl (show _ < 50 from (by omega)) ?_
    refine V.if_ge (tgt := 32) dX11_leave_20 rfl (fun c20 => ?_) (fun c20 => ?_)
    · rw [ge0] at c20
      refine V.aload_n (i := 0) dX11_leave_32 rfl rfl ?_
      refine V.iconst dX11_leave_33 ic_3 ?_
      refine V.cq1D hE dX11_leave_34 lk_X11_137 rfl (c_finding hE _ (by decide) ⟨rfl, rfl⟩) (by decide) (by decide) (Nat.le_of_ble_eq_true rfl) (Nat.le_of_ble_eq_true rfl) (Nat.le_of_ble_eq_true rfl) ?_
      refine V.iret dX11_leave_37 (Nat.le_of_ble_eq_true rfl) (Nat.le_of_ble_eq_true rfl) ?_
      exact pr_post ((if_pos (by omega)).trans (if_pos (by rw [tn_nI (by omega)]; first | exact Or.inl c20 | exact Or.inr c29))) hp
    · rw [ge0] at c20
      refine V.aload_n (i := 0) dX11_leave_23 rfl rfl ?_
      refine V.mgeta hE dX11_leave_24 fl_X11_49 rfl ?_
      refine V.iload_n (i := 1) dX11_leave_27 rfl rfl ?_
      refine V.mzald hE dX11_leave_28 rfl rfl rfl (show _ < 50 from (by omega)) ?_
      refine V.if_eq (tgt := 38) dX11_leave_29 rfl (fun c29 => ?_) (fun c29 => ?_)
      · refine V.aload_n (i := 0) dX11_leave_38 rfl rfl ?_
        refine V.mgeta hE dX11_leave_39 fl_X11_46 rfl ?_
        refine V.iload_n (i := 1) dX11_leave_42 rfl rfl ?_
        refine V.aload_n (i := 0) dX11_leave_43 rfl rfl ?_
        refine V.mgeti hE dX11_leave_44 fl_X11_134 rfl ?_
        refine V.miast hE dX11_leave_47 rfl rfl rfl (show _ < 50 from (by omega)) ?_
        refine V.iconst dX11_leave_48 ic_1 ?_
        refine V.iret dX11_leave_49 (Nat.le_of_ble_eq_true rfl) (Nat.le_of_ble_eq_true rfl) ?_
        exact pr_post ((if_pos (by omega)).trans ((if_neg (by rw [tn_nI (by omega)]; exact fun z => z.elim c20 (fun q => q c29))).trans (by rw [tn_nI (by omega)]))) hp
      · refine V.aload_n (i := 0) dX11_leave_32 rfl rfl ?_
        refine V.iconst dX11_leave_33 ic_3 ?_
        refine V.cq1D hE dX11_leave_34 lk_X11_137 rfl (c_finding hE _ (by decide) ⟨rfl, rfl⟩) (by decide) (by decide) (Nat.le_of_ble_eq_true rfl) (Nat.le_of_ble_eq_true rfl) (Nat.le_of_ble_eq_true rfl) ?_
        refine V.iret dX11_leave_37 (Nat.le_of_ble_eq_true rfl) (Nat.le_of_ble_eq_true rfl) ?_
        exact pr_post ((if_pos (by omega)).trans (if_pos (by rw [tn_nI (by omega)]; first | exact Or.inl c20 | exact Or.inr c29))) hp
  · refine V.aload_n (i := 0) dX11_leave_8 rfl rfl ?_
    refine V.iconst dX11_leave_9 ic_1 ?_
    refine V.cq1D hE dX11_leave_10 lk_X11_137 rfl (c_finding hE _ (by decide) ⟨rfl, rfl⟩) (by decide) (by decide) (Nat.le_of_ble_eq_true rfl) (Nat.le_of_ble_eq_true rfl) (Nat.le_of_ble_eq_true rfl) ?_
    refine V.iret dX11_leave_13 (Nat.le_of_ble_eq_true rfl) (Nat.le_of_ble_eq_true rfl) ?_
    exact pr_post (if_neg (by omega)) hp
set_option maxRecDepth 100000 in
theorem c_looksAt (hE : eF E = true) (c : Nat) (hI : Inv G) (hp : post (some (.int (nI (looksAt G c)))) (wG σ G)) : MX11_looksAt E 1 0 0 [.ref (eQ E 48), .int (nI c)] (wG σ G) post := by
  refine MA.of RX11 "looksAt" [some (.ref (eQ E 48)), some (.int (nI c)), none, none] rfl rfl rfl (catAll rfl) (Nat.le_of_ble_eq_true rfl) rfl (fun X => ?_)
  have hn := hI.lkN
  have loop : ∀ m k, k + m = nLk G → ∀ v, v = nI (fb_ct (fun l => decide (G 27 l = nI c)) k) → V E X RX11 "looksAt" cX11_looksAt 4 (some .int) 1 0 0 (QM E X post 0 0) (wG σ G) 0 0 4 [some (.ref (eQ E 48)), some (.int (nI c)), some (.int v), some (.int (nI k))] [] := by
    intro m
    induction m with
    | zero =>
      intro k hk v hv
      refine V.iload_n (i := 3) dX11_looksAt_4 rfl rfl ?_
      refine V.aload_n (i := 0) dX11_looksAt_5 rfl rfl ?_
      refine V.mgeti hE dX11_looksAt_6 fl_X11_131 rfl ?_
      refine V.icmp_geT (tgt := 36) dX11_looksAt_9 rfl (lpT hn.1 (by omega) (by omega)) ?_
      refine V.iload_n (i := 2) dX11_looksAt_36 rfl rfl ?_
      refine V.iret dX11_looksAt_37 (Nat.le_of_ble_eq_true rfl) (Nat.le_of_ble_eq_true rfl) ?_
      exact i_post (by rw [hv, looksAt, show k = nLk G by omega]) hp
    | succ m ih =>
      intro k hk v hv
      refine V.iload_n (i := 3) dX11_looksAt_4 rfl rfl ?_
      refine V.aload_n (i := 0) dX11_looksAt_5 rfl rfl ?_
      refine V.mgeti hE dX11_looksAt_6 fl_X11_131 rfl ?_
      refine V.icmp_geF (tgt := 36) dX11_looksAt_9 rfl (lpF hn.1 (by omega) (by omega)) ?_
      refine V.iload_n (i := 2) dX11_looksAt_12 rfl rfl ?_
      refine V.aload_n (i := 0) dX11_looksAt_13 rfl rfl ?_
      refine V.mgeta hE dX11_looksAt_14 fl_X11_68 rfl ?_
      refine V.iload_n (i := 3) dX11_looksAt_17 rfl rfl ?_
      refine V.miald hE dX11_looksAt_18 rfl rfl rfl (show _ < 60 from (by omega)) ?_
      refine V.iload_n (i := 1) dX11_looksAt_19 rfl rfl ?_
      refine V.icmp_ne (tgt := 27) dX11_looksAt_20 rfl (fun c20 => ?_) (fun c20 => ?_)
      · refine V.iconst dX11_looksAt_27 ic_0 ?_
        refine V.iadd dX11_looksAt_28 ?_
        refine V.istore_n2 (by decide) dX11_looksAt_29 ?_
        refine V.iinc3 (by decide) dX11_looksAt_30 (inc1 _) ?_
        refine V.goto (tgt := 4) dX11_looksAt_33 rfl ?_
        exact ih (k + 1) (by omega) _ (by rw [hv, fb_ct_succ, nI_add]; simp [c20])
      · refine V.iconst dX11_looksAt_23 ic_1 ?_
        refine V.goto (tgt := 28) dX11_looksAt_24 rfl ?_
        refine V.iadd dX11_looksAt_28 ?_
        refine V.istore_n2 (by decide) dX11_looksAt_29 ?_
        refine V.iinc3 (by decide) dX11_looksAt_30 (inc1 _) ?_
        refine V.goto (tgt := 4) dX11_looksAt_33 rfl ?_
        exact ih (k + 1) (by omega) _ (by rw [hv, fb_ct_succ, nI_add]; simp [c20])
  refine V.iconst dX11_looksAt_0 ic_0 ?_
  refine V.istore_n2 (by decide) dX11_looksAt_1 ?_
  refine V.iconst dX11_looksAt_2 ic_0 ?_
  refine V.istore_n3 (by decide) dX11_looksAt_3 ?_
  exact loop (nLk G) 0 (by omega) _ rfl
set_option maxRecDepth 100000 in
theorem c_feed (hE : eF E = true) (b : Int32) (hI : Inv G) (hp : post (some (.int (s_feed G b).1)) (wG σ (s_feed G b).2)) : MX11_feed E 2 0 0 [.ref (eQ E 48), .int b] (wG σ G) post := by
  refine MA.of RX11 "feed" [some (.ref (eQ E 48)), some (.int b)] rfl rfl rfl (catAll rfl) (Nat.le_of_ble_eq_true rfl) rfl (fun X => ?_)
  have hn := hI.tpN
  refine V.iload_n (i := 1) dX11_feed_0 rfl rfl ?_
  refine V.iconst dX11_feed_1 ic_0 ?_
  refine V.sipush dX11_feed_2 sc_255 ?_
  refine V.cs3D dX11_feed_5 lk_X11_124 (c_isInN _ 0 255 (by decide) (by decide) ⟨rfl, rfl⟩) (by decide) (by decide) (Nat.le_of_ble_eq_true rfl) (Nat.le_of_ble_eq_true rfl) (Nat.le_of_ble_eq_true rfl) ?_
  refine V.ifb_ne (tgt := 17) dX11_feed_8 rfl (fun c8 => ?_) (fun c8 => ?_)
  · refine V.aload_n (i := 0) dX11_feed_17 rfl rfl ?_
    refine V.mgeti hE dX11_feed_18 fl_X11_181 rfl ?_
    refine V.bipush dX11_feed_21 bc_60 ?_
    refine V.icmp_ne (tgt := 32) dX11_feed_23 rfl (fun c23 => ?_) (fun c23 => ?_)
    · have hne : nTp G ≠ 60 := fun e => c23 (by rw [hn.1, e])
      refine V.aload_n (i := 0) dX11_feed_32 rfl rfl ?_
      refine V.mgeta hE dX11_feed_33 fl_X11_53 rfl ?_
      refine V.aload_n (i := 0) dX11_feed_36 rfl rfl ?_
      refine V.mgeti hE dX11_feed_37 fl_X11_181 rfl ?_
      refine V.iload_n (i := 1) dX11_feed_40 rfl rfl ?_
      refine V.miast hE dX11_feed_41 rfl rfl hn.1 (show _ < 60 from (by omega)) ?_
      refine V.aload_n (i := 0) dX11_feed_42 rfl rfl ?_
      refine V.dup dX11_feed_43 rfl ?_
      refine V.mgeti hE dX11_feed_44 fl_X11_181 rfl ?_
      refine V.iconst dX11_feed_47 ic_1 ?_
      refine V.iadd dX11_feed_48 ?_
      refine V.as (nI (nTp G + 1)) (show G 19 0 + nI 1 = _ by rw [hn.1, nI_add]) ?_
      refine V.mputi hE dX11_feed_49 fl_X11_181 rfl rfl rfl ?_
      refine V.aload_n (i := 0) dX11_feed_52 rfl rfl ?_
      refine V.mgeti hE dX11_feed_53 fl_X11_181 rfl ?_
      refine V.iret dX11_feed_56 (Nat.le_of_ble_eq_true rfl) (Nat.le_of_ble_eq_true rfl) ?_
      exact pr_post ((if_pos (by omega)).trans (if_neg hne)) hp
    · refine V.aload_n (i := 0) dX11_feed_26 rfl rfl ?_
      refine V.iconst dX11_feed_27 ic_4 ?_
      refine V.cq1D hE dX11_feed_28 lk_X11_137 rfl (c_finding hE _ (by decide) ⟨rfl, rfl⟩) (by decide) (by decide) (Nat.le_of_ble_eq_true rfl) (Nat.le_of_ble_eq_true rfl) (Nat.le_of_ble_eq_true rfl) ?_
      refine V.iret dX11_feed_31 (Nat.le_of_ble_eq_true rfl) (Nat.le_of_ble_eq_true rfl) ?_
      exact pr_post ((if_pos (by omega)).trans (if_pos (by have := hn.1.symm.trans c23; exact (nI_eq (by omega) (by decide)).mp this))) hp
  · refine V.aload_n (i := 0) dX11_feed_11 rfl rfl ?_
    refine V.iconst dX11_feed_12 ic_1 ?_
    refine V.cq1D hE dX11_feed_13 lk_X11_137 rfl (c_finding hE _ (by decide) ⟨rfl, rfl⟩) (by decide) (by decide) (Nat.le_of_ble_eq_true rfl) (Nat.le_of_ble_eq_true rfl) (Nat.le_of_ble_eq_true rfl) ?_
    refine V.iret dX11_feed_16 (Nat.le_of_ble_eq_true rfl) (Nat.le_of_ble_eq_true rfl) ?_
    exact pr_post (if_neg (by omega)) hp
end REF3

