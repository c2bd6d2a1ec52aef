/-! ===== the model: look, check, count ===== -/
theorem frcK_row {G G' : GS} (h22 : G' 22 = G 22) (on : Int32) : ∀ n, frcK G' on n = frcK G on n
  | 0 => rfl
  | n + 1 => by
    unfold frcK
    rw [h22, frcK_row h22 on n]
theorem sumW_row {G G' : GS} (h24 : G' 24 = G 24) (t : Nat) (f : Int32) : ∀ n, sumW G' t f n = sumW G t f n
  | 0 => rfl
  | n + 1 => by
    unfold sumW
    rw [h24, sumW_row h24 t f n]
theorem hldB_row {G G' : GS} {i : Nat} {f : Int32} (h0 : G' 0 = G 0) (h2 : G' 2 = G 2) (h21 : G' 21 = G 21) (h22 : G' 22 = G 22) (h23 : G' 23 = G 23) (h24 : G' 24 = G 24) (h25 : G' 25 = G 25) : hldB G' i f = hldB G i f := by
  have e1 : frc G' (G' 0 0) = frc G (G 0 0) := by
    unfold frc nTr gN
    rw [h0, h21, frcK_row h22]
  unfold hldB
  rw [e1]
  cases frc G (G 0 0) with
  | none => rfl
  | some t =>
    show decide _ = decide _
    unfold gN
    rw [h25, h23, h2, sumW_row h24]
theorem inv_look4 {G : GS} (hI : Inv G) (c b f : Int32) : Inv (u2 (u2 (u2 (u2 G 27 (nLk G) c) 28 (nLk G) b) 29 (nLk G) (G 0 0)) 30 (nLk G) f) := by
  refine ⟨hI.day, hI.shN, hI.kind, hI.built, hI.came, hI.chN, hI.chg, hI.chS, hI.wdN, hI.wd, hI.caN, hI.ca, hI.one, hI.held, hI.heldZ, hI.tpN, hI.trN, hI.lkN, ?_, ?_, ?_, hI.lkH, hI.lkC, hI.drN, hI.rst, hI.rstZ, hI.mon, hI.ban, hI.banZ, hI.banD, hI.wtN⟩
  · intro l (hl : l < nLk G)
    show u2 G 27 (nLk G) c 27 l = nI (u2 G 27 (nLk G) c 27 l).toNatClampNeg ∧ (u2 G 27 (nLk G) c 27 l).toNatClampNeg < nCa G
    rw [u2_ne (Nat.ne_of_lt hl)]
    exact hI.lk l hl
  · intro l (hl : l < nLk G)
    show 0 ≤ (u2 G 29 (nLk G) (G 0 0) 29 l).toInt ∧ (u2 G 29 (nLk G) (G 0 0) 29 l).toInt ≤ (G 0 0).toInt
    rw [u2_ne (Nat.ne_of_lt hl)]
    exact hI.lkD l hl
  · intro l (hl : l < nLk G)
    show u2 G 30 (nLk G) f 30 l = nI (u2 G 30 (nLk G) f 30 l).toNatClampNeg ∧ (u2 G 30 (nLk G) f 30 l).toNatClampNeg < 1024
    rw [u2_ne (Nat.ne_of_lt hl)]
    exact hI.lkF l hl
section REF12
variable {E : VE} {σ : Sg} {G : GS} {post : Option Value → Sg → Prop}
set_option maxRecDepth 100000 in
theorem c_look (hE : eF E = true) (c b f : Int32) (hI : Inv G) (hp : post (some (.int (s_look G c b f).1)) (wG σ (s_look G c b f).2)) : MX11_look E 5 0 0 [.ref (eQ E 48), .int c, .int b, .int f] (wG σ G) post := by
  refine MA.of RX11 "look" [some (.ref (eQ E 48)), some (.int c), some (.int b), some (.int f), none] rfl rfl rfl (catAll rfl) (Nat.le_of_ble_eq_true rfl) rfl (fun X => ?_)
  have hn := hI.lkN
  have h50 := hI.caN.2
  have h16 := hI.shN.2
  have L174 : ∀ G', post (some (.int (nI (nLk G)))) (wG σ G') → ∀ l1 l2 l3, V E X RX11 "look" cX11_look 5 (some .int) 5 0 0 (QM E X post 0 0) (wG σ G') 0 0 174 [some (.ref (eQ E 48)), l1, l2, l3, some (.int (nI (nLk G)))] [] := by
    intro G' hp l1 l2 l3
    refine V.iload (i := 4) dX11_look_174 rfl ?_
    refine V.iret dX11_look_176 (Nat.le_of_ble_eq_true rfl) (Nat.le_of_ble_eq_true rfl) ?_
    exact hp
  have L164 : ∀ i, i < nCa G → (G 14 i = nI (gN G 14 i) ∧ gN G 14 i < nSh G) → nLk G ≠ 60 → (0 ≤ f.toInt ∧ f.toInt ≤ 1023) → post (some (.int (nI (nLk G)))) (wG σ (banG (lookG G (nI i) b f) (gN G 14 i))) → ∀ l2 l3, V E X RX11 "look" cX11_look 5 (some .int) 5 0 0 (QM E X post 0 0) (wG σ (lookG G (nI i) b f)) 0 0 164 [some (.ref (eQ E 48)), some (.int (nI i)), l2, l3, some (.int (nI (nLk G)))] [] := by
    intro i hi hca hne hf hp l2 l3
    have hIL := (inv_lookG hI (nI i) b f (by rw [toI _ (by omega)]; omega) hf hne).1
    refine V.aload_n (i := 0) dX11_look_164 rfl rfl ?_
    refine V.aload_n (i := 0) dX11_look_165 rfl rfl ?_
    refine V.mgeta hE dX11_look_166 fl_X11_37 rfl ?_
    refine V.iload_n (i := 1) dX11_look_169 rfl rfl ?_
    refine V.miald hE dX11_look_170 rfl rfl rfl (show _ < 50 from (by omega)) ?_
    refine V.as (nI (gN G 14 i)) hca.1 ?_
    refine V.cq1U hE dX11_look_171 lk_X11_222 rfl (c_ban hE (gN G 14 i) hca.2 hIL ⟨rfl, rfl⟩) (by decide) (by decide) (Nat.le_of_ble_eq_true rfl) (Nat.le_of_ble_eq_true rfl) (Nat.le_of_ble_eq_true rfl) ?_
    exact L174 _ hp _ _ _
  refine V.aload_n (i := 0) dX11_look_0 rfl rfl ?_
  refine V.iload_n (i := 1) dX11_look_1 rfl rfl ?_
  refine V.cq1D hE dX11_look_2 lk_X11_175 rfl (c_isCall hE _ hI ⟨rfl, rfl⟩) (by decide) (by decide) (Nat.le_of_ble_eq_true rfl) (Nat.le_of_ble_eq_true rfl) (Nat.le_of_ble_eq_true rfl) ?_
  refine V.ifb_eq (tgt := 28) dX11_look_5 rfl (fun c5 => ?_) (fun c5 => ?_)
  · refine V.aload_n (i := 0) dX11_look_28 rfl rfl ?_
    refine V.iconst dX11_look_29 ic_1 ?_
    refine V.cq1D hE dX11_look_30 lk_X11_137 rfl (c_finding hE _ (by decide) ⟨rfl, rfl⟩) (by decide) (by decide) (Nat.le_of_ble_eq_true rfl) (Nat.le_of_ble_eq_true rfl) (Nat.le_of_ble_eq_true rfl) ?_
    refine V.iret dX11_look_33 (Nat.le_of_ble_eq_true rfl) (Nat.le_of_ble_eq_true rfl) ?_
    exact pr_post (if_neg (by omega)) hp
  · refine V.iload_n (i := 2) dX11_look_8 rfl rfl ?_
    refine V.iconst dX11_look_9 ic_0 ?_
    refine V.iconst dX11_look_10 ic_5 ?_
    refine V.cs3D dX11_look_11 lk_X11_124 (c_isInN _ 0 5 (by decide) (by decide) ⟨rfl, rfl⟩) (by decide) (by decide) (Nat.le_of_ble_eq_true rfl) (Nat.le_of_ble_eq_true rfl) (Nat.le_of_ble_eq_true rfl) ?_
    refine V.ifb_eq (tgt := 28) dX11_look_14 rfl (fun c14 => ?_) (fun c14 => ?_)
    · refine V.aload_n (i := 0) dX11_look_28 rfl rfl ?_
      refine V.iconst dX11_look_29 ic_1 ?_
      refine V.cq1D hE dX11_look_30 lk_X11_137 rfl (c_finding hE _ (by decide) ⟨rfl, rfl⟩) (by decide) (by decide) (Nat.le_of_ble_eq_true rfl) (Nat.le_of_ble_eq_true rfl) (Nat.le_of_ble_eq_true rfl) ?_
      refine V.iret dX11_look_33 (Nat.le_of_ble_eq_true rfl) (Nat.le_of_ble_eq_true rfl) ?_
      exact pr_post (if_neg (by omega)) hp
    · refine V.iload_n (i := 3) dX11_look_17 rfl rfl ?_
      refine V.iconst dX11_look_18 ic_0 ?_
      refine V.sipush dX11_look_19 sc_1023 ?_
      refine V.cs3D dX11_look_22 lk_X11_124 (c_isInN _ 0 1023 (by decide) (by decide) ⟨rfl, rfl⟩) (by decide) (by decide) (Nat.le_of_ble_eq_true rfl) (Nat.le_of_ble_eq_true rfl) (Nat.le_of_ble_eq_true rfl) ?_
      refine V.ifb_ne (tgt := 34) dX11_look_25 rfl (fun c25 => ?_) (fun c25 => ?_)
      · obtain ⟨i, hi, rfl⟩ := idxOf c5
        have hca := hI.ca i hi
        have htn : tn (nI i) = i := tn_nI (by omega)
        refine V.aload_n (i := 0) dX11_look_34 rfl rfl ?_
        refine V.mgeta hE dX11_look_35 fl_X11_46 rfl ?_
        refine V.iload_n (i := 1) dX11_look_38 rfl rfl ?_
        refine V.miald hE dX11_look_39 rfl rfl rfl (show _ < 50 from (by omega)) ?_
        refine V.if_lt (tgt := 49) dX11_look_40 rfl (fun c40 => ?_) (fun c40 => ?_)
        · rw [lt0] at c40
          refine V.aload_n (i := 0) dX11_look_49 rfl rfl ?_
          refine V.mgeti hE dX11_look_50 fl_X11_131 rfl ?_
          refine V.bipush dX11_look_53 bc_60 ?_
          refine V.icmp_ne (tgt := 64) dX11_look_55 rfl (fun c55 => ?_) (fun c55 => ?_)
          · have hne : nLk G ≠ 60 := fun e => c55 (by rw [hn.1, e])
            have hz : s_look G (nI i) b f = (nI (nLk G), if hldB G (gN G 14 i) f then banG (lookG G (nI i) b f) (gN G 14 i) else lookG G (nI i) b f) := by
              refine (if_pos (by omega)).trans ((if_neg (by rw [htn]; omega)).trans ((if_neg hne).trans ?_))
              rw [htn]
            have hIm := inv_look4 hI (nI i) b f
            have hhl : hldB (u2 (u2 (u2 (u2 G 27 (nLk G) (nI i)) 28 (nLk G) b) 29 (nLk G) (G 0 0)) 30 (nLk G) f) (gN G 14 i) f = hldB G (gN G 14 i) f := hldB_row rfl rfl rfl rfl rfl rfl rfl
            refine V.aload_n (i := 0) dX11_look_64 rfl rfl ?_
            refine V.mgeti hE dX11_look_65 fl_X11_131 rfl ?_
            refine V.as _ hn.1 ?_
            refine V.istore4 (by decide) dX11_look_68 ?_
            refine V.aload_n (i := 0) dX11_look_70 rfl rfl ?_
            refine V.mgeta hE dX11_look_71 fl_X11_68 rfl ?_
            refine V.iload (i := 4) dX11_look_74 rfl ?_
            refine V.iload_n (i := 1) dX11_look_76 rfl rfl ?_
            refine V.miast hE dX11_look_77 rfl rfl rfl (show _ < 60 from (by omega)) ?_
            refine V.aload_n (i := 0) dX11_look_78 rfl rfl ?_
            refine V.mgeta hE dX11_look_79 fl_X11_71 rfl ?_
            refine V.iload (i := 4) dX11_look_82 rfl ?_
            refine V.iload_n (i := 2) dX11_look_84 rfl rfl ?_
            refine V.miast hE dX11_look_85 rfl rfl rfl (show _ < 60 from (by omega)) ?_
            refine V.aload_n (i := 0) dX11_look_86 rfl rfl ?_
            refine V.mgeta hE dX11_look_87 fl_X11_74 rfl ?_
            refine V.iload (i := 4) dX11_look_90 rfl ?_
            refine V.aload_n (i := 0) dX11_look_92 rfl rfl ?_
            refine V.mgeti hE dX11_look_93 fl_X11_134 rfl ?_
            refine V.miast hE dX11_look_96 rfl rfl rfl (show _ < 60 from (by omega)) ?_
            refine V.aload_n (i := 0) dX11_look_97 rfl rfl ?_
            refine V.mgeta hE dX11_look_98 fl_X11_77 rfl ?_
            refine V.iload (i := 4) dX11_look_101 rfl ?_
            refine V.iload_n (i := 3) dX11_look_103 rfl rfl ?_
            refine V.miast hE dX11_look_104 rfl rfl rfl (show _ < 60 from (by omega)) ?_
            refine V.aload_n (i := 0) dX11_look_105 rfl rfl ?_
            refine V.mgeta hE dX11_look_106 fl_X11_80 rfl ?_
            refine V.iload (i := 4) dX11_look_109 rfl ?_
            refine V.aload_n (i := 0) dX11_look_111 rfl rfl ?_
            refine V.aload_n (i := 0) dX11_look_112 rfl rfl ?_
            refine V.mgeta hE dX11_look_113 fl_X11_37 rfl ?_
            refine V.iload_n (i := 1) dX11_look_116 rfl rfl ?_
            refine V.miald hE dX11_look_117 rfl rfl rfl (show _ < 50 from (by omega)) ?_
            refine V.as (nI (gN G 14 i)) hca.1 ?_
            refine V.iload_n (i := 3) dX11_look_118 rfl rfl ?_
            refine V.cq2D hE dX11_look_119 lk_X11_219 rfl (c_wouldHold hE (gN G 14 i) f (by omega) (hI.kind _ hca.2) hIm ⟨rfl, rfl⟩) (by decide) (by decide) (Nat.le_of_ble_eq_true rfl) (Nat.le_of_ble_eq_true rfl) (Nat.le_of_ble_eq_true rfl) ?_
            refine V.as (b2 (hldB G (gN G 14 i) f = true)) (congrArg (fun q => b2 (q = true)) hhl) ?_
            refine V.mzast hE dX11_look_122 rfl rfl (b2_01 _) rfl (show _ < 60 from (by omega)) ?_
            refine V.aload_n (i := 0) dX11_look_123 rfl rfl ?_
            refine V.mgeta hE dX11_look_124 fl_X11_83 rfl ?_
            refine V.iload (i := 4) dX11_look_127 rfl ?_
            refine V.iconst dX11_look_129 ic_0 ?_
            refine V.miast hE dX11_look_130 rfl rfl rfl (show _ < 60 from (by omega)) ?_
            refine V.aload_n (i := 0) dX11_look_131 rfl rfl ?_
            refine V.dup dX11_look_132 rfl ?_
            refine V.mgeti hE dX11_look_133 fl_X11_131 rfl ?_
            refine V.iconst dX11_look_136 ic_1 ?_
            refine V.iadd dX11_look_137 ?_
            refine V.as (nI (nLk G + 1)) (show G 26 0 + nI 1 = _ by rw [hn.1, nI_add]) ?_
            refine V.mputi hE dX11_look_138 fl_X11_131 rfl rfl rfl ?_
            refine V.aload_n (i := 0) dX11_look_141 rfl rfl ?_
            refine V.mgeta hE dX11_look_142 fl_X11_49 rfl ?_
            refine V.iload_n (i := 1) dX11_look_145 rfl rfl ?_
            refine V.aload_n (i := 0) dX11_look_146 rfl rfl ?_
            refine V.mgeta hE dX11_look_147 fl_X11_80 rfl ?_
            refine V.iload (i := 4) dX11_look_150 rfl ?_
            refine V.mzald hE dX11_look_152 rfl rfl rfl (show _ < 60 from (by omega)) ?_
            refine V.as (b2 (hldB G (gN G 14 i) f = true)) (show u2 _ 31 _ _ 31 _ = _ from u2_eq) ?_
            refine V.mzast hE dX11_look_153 rfl rfl (b2_01 _) rfl (show _ < 50 from (by omega)) ?_
            refine V.sts (σ' := wG σ (lookG G (nI i) b f)) (by unfold lookG; rw [htn]; rfl) ?_
            refine V.aload_n (i := 0) dX11_look_154 rfl rfl ?_
            refine V.mgeta hE dX11_look_155 fl_X11_80 rfl ?_
            refine V.iload (i := 4) dX11_look_158 rfl ?_
            refine V.mzald hE dX11_look_160 rfl rfl rfl (show _ < 60 from (by omega)) ?_
            refine V.as (b2 (hldB G (gN G 14 i) f = true)) (by unfold lookG; rw [htn]; exact (u2_eq : u2 (u2 (u2 (u2 (u2 G 27 (nLk G) (nI i)) 28 (nLk G) b) 29 (nLk G) (G 0 0)) 30 (nLk G) f) 31 (nLk G) (b2 (hldB G (gN G 14 i) f = true)) 31 (nLk G) = _)) ?_
            refine V.ifb_eq (tgt := 174) dX11_look_161 rfl (fun c161 => ?_) (fun c161 => ?_)
            · exact L174 _ (pr_post (hz.trans (by rw [if_neg c161])) hp) _ _ _
            · refine L164 i hi hca hne (by omega) ?_ _ _
              exact pr_post (hz.trans (by rw [if_pos c161])) hp
          · refine V.aload_n (i := 0) dX11_look_58 rfl rfl ?_
            refine V.iconst dX11_look_59 ic_4 ?_
            refine V.cq1D hE dX11_look_60 lk_X11_137 rfl (c_finding hE _ (by decide) ⟨rfl, rfl⟩) (by decide) (by decide) (Nat.le_of_ble_eq_true rfl) (Nat.le_of_ble_eq_true rfl) (Nat.le_of_ble_eq_true rfl) ?_
            refine V.iret dX11_look_63 (Nat.le_of_ble_eq_true rfl) (Nat.le_of_ble_eq_true rfl) ?_
            exact pr_post ((if_pos (by omega)).trans ((if_neg (by rw [htn]; omega)).trans (if_pos (by have := hn.1.symm.trans c55; exact (nI_eq (by omega) (by decide)).mp this)))) hp
        · rw [lt0] at c40
          refine V.aload_n (i := 0) dX11_look_43 rfl rfl ?_
          refine V.iconst dX11_look_44 ic_3 ?_
          refine V.cq1D hE dX11_look_45 lk_X11_137 rfl (c_finding hE _ (by decide) ⟨rfl, rfl⟩) (by decide) (by decide) (Nat.le_of_ble_eq_true rfl) (Nat.le_of_ble_eq_true rfl) (Nat.le_of_ble_eq_true rfl) ?_
          refine V.iret dX11_look_48 (Nat.le_of_ble_eq_true rfl) (Nat.le_of_ble_eq_true rfl) ?_
          exact pr_post ((if_pos (by omega)).trans (if_pos (by rw [htn]; omega))) hp
      · refine V.aload_n (i := 0) dX11_look_28 rfl rfl ?_
        refine V.iconst dX11_look_29 ic_1 ?_
        refine V.cq1D hE dX11_look_30 lk_X11_137 rfl (c_finding hE _ (by decide) ⟨rfl, rfl⟩) (by decide) (by decide) (Nat.le_of_ble_eq_true rfl) (Nat.le_of_ble_eq_true rfl) (Nat.le_of_ble_eq_true rfl) ?_
        refine V.iret dX11_look_33 (Nat.le_of_ble_eq_true rfl) (Nat.le_of_ble_eq_true rfl) ?_
        exact pr_post (if_neg (by omega)) hp
set_option maxRecDepth 100000 in
theorem c_check (hE : eF E = true) (hI : Inv G) (hp : post (some (.int (s_check G).1)) (wG σ (s_check G).2)) : MX11_check E 5 0 0 [.ref (eQ E 48)] (wG σ G) post := by
  refine MA.of RX11 "check" [some (.ref (eQ E 48)), none, none] rfl rfl rfl (catAll rfl) (Nat.le_of_ble_eq_true rfl) rfl (fun X => ?_)
  have hw := hI.wtN
  have hs := hI.shN
  have hI1 := inv_wt0 hI
  have loop : ∀ F, F = fstOf (chkB (u2 G 39 0 (nI 0))) (nWt G) 0 → ∀ m k, k + m = nWt G → F = fstOf (chkB (u2 G 39 0 (nI 0))) m k → V E X RX11 "check" cX11_check 3 (some .int) 5 0 0 (QM E X post 0 0) (wG σ (u2 G 39 0 (nI 0))) 0 0 12 [some (.ref (eQ E 48)), some (.int (nI (nWt G))), some (.int (nI k))] [] := by
    intro F hF m
    have hz : s_check G = (if F < nWt G then nI (1 + F) else nI 0, u2 G 39 0 (nI 0)) := by rw [hF]; rfl
    induction m with
    | zero =>
      intro k hk hv
      refine V.iload_n (i := 2) dX11_check_12 rfl rfl ?_
      refine V.iload_n (i := 1) dX11_check_13 rfl rfl ?_
      refine V.icmp_geT (tgt := 49) dX11_check_14 rfl (nI_le (by omega) (by omega)) ?_
      refine V.iconst dX11_check_49 ic_0 ?_
      refine V.iret dX11_check_50 (Nat.le_of_ble_eq_true rfl) (Nat.le_of_ble_eq_true rfl) ?_
      exact pr_post (hz.trans (by rw [if_neg (by rw [hv]; unfold fstOf; omega)])) hp
    | succ m ih =>
      intro k hk hv
      rw [fstOf_s] at hv
      refine V.iload_n (i := 2) dX11_check_12 rfl rfl ?_
      refine V.iload_n (i := 1) dX11_check_13 rfl rfl ?_
      refine V.icmp_geF (tgt := 49) dX11_check_14 rfl (nI_ge (by omega) (by omega)) ?_
      refine V.iload_n (i := 2) dX11_check_17 rfl rfl ?_
      refine V.aload_n (i := 0) dX11_check_18 rfl rfl ?_
      refine V.mgeti hE dX11_check_19 fl_X11_121 rfl ?_
      refine V.icmp_ge (tgt := 39) dX11_check_22 rfl (fun c22 => ?_) (fun c22 => ?_)
      · rw [show u2 G 39 0 (nI 0) 1 0 = nI (nSh G) from hs.1, nI_leI (by omega) (by omega)] at c22
        refine V.iconst dX11_check_39 ic_1 ?_
        refine V.iload_n (i := 2) dX11_check_40 rfl rfl ?_
        refine V.iadd dX11_check_41 ?_
        refine V.iret dX11_check_42 (Nat.le_of_ble_eq_true rfl) (Nat.le_of_ble_eq_true rfl) ?_
        exact pr_post (hz.trans (by rw [hv.trans (if_pos (by unfold chkB; first | exact decide_eq_true (Or.inl c22) | exact decide_eq_true (Or.inr c36))), if_pos (by omega), nI_add])) hp
      · rw [show u2 G 39 0 (nI 0) 1 0 = nI (nSh G) from hs.1, nI_leI (by omega) (by omega)] at c22
        refine V.aload_n (i := 0) dX11_check_25 rfl rfl ?_
        refine V.iload_n (i := 2) dX11_check_26 rfl rfl ?_
        refine V.cq1D hE dX11_check_27 lk_X11_235 rfl (c_riskOf hE k (by show k < nSh G; omega) hI1 ⟨rfl, rfl⟩) (by decide) (by decide) (Nat.le_of_ble_eq_true rfl) (Nat.le_of_ble_eq_true rfl) (Nat.le_of_ble_eq_true rfl) ?_
        refine V.aload_n (i := 0) dX11_check_30 rfl rfl ?_
        refine V.mgeta hE dX11_check_31 fl_X11_102 rfl ?_
        refine V.iload_n (i := 2) dX11_check_34 rfl rfl ?_
        refine V.miald hE dX11_check_35 rfl rfl rfl (show _ < 16 from (by omega)) ?_
        refine V.icmp_eq (tgt := 43) dX11_check_36 rfl (fun c36 => ?_) (fun c36 => ?_)
        · refine V.iinc2 (by decide) dX11_check_43 (inc1 _) ?_
          refine V.goto (tgt := 12) dX11_check_46 rfl ?_
          exact ih (k + 1) (by omega) (hv.trans (if_neg (by unfold chkB; intro z; exact (of_decide_eq_true z).elim c22 (fun q => q c36))))
        · refine V.iconst dX11_check_39 ic_1 ?_
          refine V.iload_n (i := 2) dX11_check_40 rfl rfl ?_
          refine V.iadd dX11_check_41 ?_
          refine V.iret dX11_check_42 (Nat.le_of_ble_eq_true rfl) (Nat.le_of_ble_eq_true rfl) ?_
          exact pr_post (hz.trans (by rw [hv.trans (if_pos (by unfold chkB; first | exact decide_eq_true (Or.inl c22) | exact decide_eq_true (Or.inr c36))), if_pos (by omega), nI_add])) hp
  refine V.aload_n (i := 0) dX11_check_0 rfl rfl ?_
  refine V.mgeti hE dX11_check_1 fl_X11_267 rfl ?_
  refine V.as _ hw.1 ?_
  refine V.istore_n1 (by decide) dX11_check_4 ?_
  refine V.aload_n (i := 0) dX11_check_5 rfl rfl ?_
  refine V.iconst dX11_check_6 ic_0 ?_
  refine V.mputi hE dX11_check_7 fl_X11_267 rfl rfl rfl ?_
  refine V.iconst dX11_check_10 ic_0 ?_
  refine V.istore_n2 (by decide) dX11_check_11 ?_
  exact loop _ rfl (nWt G) 0 (by omega) rfl
set_option maxRecDepth 100000 in
theorem c_count (hE : eF E = true) (w : Int32) (hI : Inv G) (hp : post (some (.int (s_count G w).1)) (wG σ (s_count G w).2)) : MX11_count E 2 0 0 [.ref (eQ E 48), .int w] (wG σ G) post := by
  refine MA.of RX11 "count" [some (.ref (eQ E 48)), some (.int w), none, none] rfl rfl rfl (catAll rfl) (Nat.le_of_ble_eq_true rfl) rfl (fun X => ?_)
  have hs := hI.shN
  have hc := hI.caN
  have L8 : post (some (.int (nI (inPorts G)))) (wG σ G) → ∀ m k, k + m = nSh G → ∀ v, v = nI (fb_ct (fun s => decide (openOf G (nI s) ≠ none)) k) → ∀ l1, V E X RX11 "count" cX11_count 4 (some .int) 2 0 0 (QM E X post 0 0) (wG σ G) 0 0 106 [some (.ref (eQ E 48)), l1, some (.int v), some (.int (nI k))] [] := by
    intro hp m
    induction m with
    | zero =>
      intro k hk v hv l1
      refine V.iload_n (i := 3) dX11_count_106 rfl rfl ?_
      refine V.aload_n (i := 0) dX11_count_107 rfl rfl ?_
      refine V.mgeti hE dX11_count_108 fl_X11_121 rfl ?_
      refine V.icmp_geT (tgt := 136) dX11_count_111 rfl (lpT hs.1 (by omega) (by omega)) ?_
      refine V.iload_n (i := 2) dX11_count_136 rfl rfl ?_
      refine V.iret dX11_count_137 (Nat.le_of_ble_eq_true rfl) (Nat.le_of_ble_eq_true rfl) ?_
      exact i_post (by rw [hv, inPorts, show k = nSh G by omega]) hp
    | succ m ih =>
      intro k hk v hv l1
      refine V.iload_n (i := 3) dX11_count_106 rfl rfl ?_
      refine V.aload_n (i := 0) dX11_count_107 rfl rfl ?_
      refine V.mgeti hE dX11_count_108 fl_X11_121 rfl ?_
      refine V.icmp_geF (tgt := 136) dX11_count_111 rfl (lpF hs.1 (by omega) (by omega)) ?_
      refine V.iload_n (i := 2) dX11_count_114 rfl rfl ?_
      refine V.aload_n (i := 0) dX11_count_115 rfl rfl ?_
      refine V.iload_n (i := 3) dX11_count_116 rfl rfl ?_
      refine V.cq1D hE dX11_count_117 lk_X11_172 rfl (c_openCall hE _ hI ⟨rfl, rfl⟩) (by decide) (by decide) (Nat.le_of_ble_eq_true rfl) (Nat.le_of_ble_eq_true rfl) (Nat.le_of_ble_eq_true rfl) ?_
      refine V.if_lt (tgt := 127) dX11_count_120 rfl (fun c120 => ?_) (fun c120 => ?_)
      · rw [← Int32.not_le, optI_ge _ (fun c h => by have := openK_lt _ _ _ _ h; omega)] at c120
        refine V.iconst dX11_count_127 ic_0 ?_
        refine V.iadd dX11_count_128 ?_
        refine V.istore_n2 (by decide) dX11_count_129 ?_
        refine V.iinc3 (by decide) dX11_count_130 (inc1 _) ?_
        refine V.goto (tgt := 106) dX11_count_133 rfl ?_
        exact ih (k + 1) (by omega) _ (by rw [hv, nI_add, fb_ct_succ]; simp_all) _
      · rw [← Int32.not_le, optI_ge _ (fun c h => by have := openK_lt _ _ _ _ h; omega)] at c120
        refine V.iconst dX11_count_123 ic_1 ?_
        refine V.goto (tgt := 128) dX11_count_124 rfl ?_
        refine V.iadd dX11_count_128 ?_
        refine V.istore_n2 (by decide) dX11_count_129 ?_
        refine V.iinc3 (by decide) dX11_count_130 (inc1 _) ?_
        refine V.goto (tgt := 106) dX11_count_133 rfl ?_
        exact ih (k + 1) (by omega) _ (by rw [hv, nI_add, fb_ct_succ]; simp_all) _
  have L9 : post (some (.int (nI (heldN G)))) (wG σ G) → ∀ m k, k + m = nCa G → ∀ v, v = nI (fb_ct (fun c => decide (¬ G 18 c = 0)) k) → ∀ l1, V E X RX11 "count" cX11_count 4 (some .int) 2 0 0 (QM E X post 0 0) (wG σ G) 0 0 140 [some (.ref (eQ E 48)), l1, some (.int v), some (.int (nI k))] [] := by
    intro hp m
    induction m with
    | zero =>
      intro k hk v hv l1
      refine V.iload_n (i := 3) dX11_count_140 rfl rfl ?_
      refine V.aload_n (i := 0) dX11_count_141 rfl rfl ?_
      refine V.mgeti hE dX11_count_142 fl_X11_128 rfl ?_
      refine V.icmp_geT (tgt := 171) dX11_count_145 rfl (lpT hc.1 (by omega) (by omega)) ?_
      refine V.iload_n (i := 2) dX11_count_171 rfl rfl ?_
      refine V.iret dX11_count_172 (Nat.le_of_ble_eq_true rfl) (Nat.le_of_ble_eq_true rfl) ?_
      exact i_post (by rw [hv, heldN, show k = nCa G by omega]) hp
    | succ m ih =>
      intro k hk v hv l1
      refine V.iload_n (i := 3) dX11_count_140 rfl rfl ?_
      refine V.aload_n (i := 0) dX11_count_141 rfl rfl ?_
      refine V.mgeti hE dX11_count_142 fl_X11_128 rfl ?_
      refine V.icmp_geF (tgt := 171) dX11_count_145 rfl (lpF hc.1 (by omega) (by omega)) ?_
      refine V.iload_n (i := 2) dX11_count_148 rfl rfl ?_
      refine V.aload_n (i := 0) dX11_count_149 rfl rfl ?_
      refine V.mgeta hE dX11_count_150 fl_X11_49 rfl ?_
      refine V.iload_n (i := 3) dX11_count_153 rfl rfl ?_
      refine V.mzald hE dX11_count_154 rfl rfl rfl (show _ < 50 from (by omega)) ?_
      refine V.if_eq (tgt := 162) dX11_count_155 rfl (fun c155 => ?_) (fun c155 => ?_)
      · refine V.iconst dX11_count_162 ic_0 ?_
        refine V.iadd dX11_count_163 ?_
        refine V.istore_n2 (by decide) dX11_count_164 ?_
        refine V.iinc3 (by decide) dX11_count_165 (inc1 _) ?_
        refine V.goto (tgt := 140) dX11_count_168 rfl ?_
        exact ih (k + 1) (by omega) _ (by rw [hv, nI_add, fb_ct_succ]; simp_all) _
      · refine V.iconst dX11_count_158 ic_1 ?_
        refine V.goto (tgt := 163) dX11_count_159 rfl ?_
        refine V.iadd dX11_count_163 ?_
        refine V.istore_n2 (by decide) dX11_count_164 ?_
        refine V.iinc3 (by decide) dX11_count_165 (inc1 _) ?_
        refine V.goto (tgt := 140) dX11_count_168 rfl ?_
        exact ih (k + 1) (by omega) _ (by rw [hv, nI_add, fb_ct_succ]; simp_all) _
  have L10 : post (some (.int (nI (banN G)))) (wG σ G) → ∀ m k, k + m = nSh G → ∀ v, v = nI (fb_ct (fun i => decide (¬ G 36 i = 0)) k) → ∀ l1, V E X RX11 "count" cX11_count 4 (some .int) 2 0 0 (QM E X post 0 0) (wG σ G) 0 0 175 [some (.ref (eQ E 48)), l1, some (.int v), some (.int (nI k))] [] := by
    intro hp m
    induction m with
    | zero =>
      intro k hk v hv l1
      refine V.iload_n (i := 3) dX11_count_175 rfl rfl ?_
      refine V.aload_n (i := 0) dX11_count_176 rfl rfl ?_
      refine V.mgeti hE dX11_count_177 fl_X11_121 rfl ?_
      refine V.icmp_geT (tgt := 206) dX11_count_180 rfl (lpT hs.1 (by omega) (by omega)) ?_
      refine V.iload_n (i := 2) dX11_count_206 rfl rfl ?_
      refine V.iret dX11_count_207 (Nat.le_of_ble_eq_true rfl) (Nat.le_of_ble_eq_true rfl) ?_
      exact i_post (by rw [hv, banN, show k = nSh G by omega]) hp
    | succ m ih =>
      intro k hk v hv l1
      refine V.iload_n (i := 3) dX11_count_175 rfl rfl ?_
      refine V.aload_n (i := 0) dX11_count_176 rfl rfl ?_
      refine V.mgeti hE dX11_count_177 fl_X11_121 rfl ?_
      refine V.icmp_geF (tgt := 206) dX11_count_180 rfl (lpF hs.1 (by omega) (by omega)) ?_
      refine V.iload_n (i := 2) dX11_count_183 rfl rfl ?_
      refine V.aload_n (i := 0) dX11_count_184 rfl rfl ?_
      refine V.mgeta hE dX11_count_185 fl_X11_93 rfl ?_
      refine V.iload_n (i := 3) dX11_count_188 rfl rfl ?_
      refine V.mzald hE dX11_count_189 rfl rfl rfl (show _ < 16 from (by omega)) ?_
      refine V.if_eq (tgt := 197) dX11_count_190 rfl (fun c190 => ?_) (fun c190 => ?_)
      · refine V.iconst dX11_count_197 ic_0 ?_
        refine V.iadd dX11_count_198 ?_
        refine V.istore_n2 (by decide) dX11_count_199 ?_
        refine V.iinc3 (by decide) dX11_count_200 (inc1 _) ?_
        refine V.goto (tgt := 175) dX11_count_203 rfl ?_
        exact ih (k + 1) (by omega) _ (by rw [hv, nI_add, fb_ct_succ]; simp_all) _
      · refine V.iconst dX11_count_193 ic_1 ?_
        refine V.goto (tgt := 198) dX11_count_194 rfl ?_
        refine V.iadd dX11_count_198 ?_
        refine V.istore_n2 (by decide) dX11_count_199 ?_
        refine V.iinc3 (by decide) dX11_count_200 (inc1 _) ?_
        refine V.goto (tgt := 175) dX11_count_203 rfl ?_
        exact ih (k + 1) (by omega) _ (by rw [hv, nI_add, fb_ct_succ]; simp_all) _
  by_cases hg : 0 ≤ w.toInt ∧ w.toInt ≤ 11
  · obtain ⟨j, hj, rfl⟩ := idxOf (x := w) (n := 12) (by omega)
    have hz : ∀ x, cntW G j = x → post (some (.int x)) (wG σ G) := by
      intro x hx
      refine pr_post ((if_pos hg).trans ?_) hp
      rw [show tn (nI j) = j from tn_nI (by omega), ← hx]
    rcases (show j = 0 ∨ j = 1 ∨ j = 2 ∨ j = 3 ∨ j = 4 ∨ j = 5 ∨ j = 6 ∨ j = 7 ∨ j = 8 ∨ j = 9 ∨ j = 10 ∨ j = 11 by omega) with rfl | rfl | rfl | rfl | rfl | rfl | rfl | rfl | rfl | rfl | rfl | rfl
    · skip
      refine V.iconst dX11_count_0 ic_0 ?_
      refine V.istore_n2 (by decide) dX11_count_1 ?_
      refine V.iload_n (i := 1) dX11_count_2 rfl rfl ?_
      refine V.tableIn (tgt := 64) (off := 61) dX11_count_3 (by decide) (by decide) rfl rfl ?_
      refine V.aload_n (i := 0) dX11_count_64 rfl rfl ?_
      refine V.mgeti hE dX11_count_65 fl_X11_121 rfl ?_
      refine V.iret dX11_count_68 (Nat.le_of_ble_eq_true rfl) (Nat.le_of_ble_eq_true rfl) ?_
      exact hz _ rfl
    · skip
      refine V.iconst dX11_count_0 ic_0 ?_
      refine V.istore_n2 (by decide) dX11_count_1 ?_
      refine V.iload_n (i := 1) dX11_count_2 rfl rfl ?_
      refine V.tableIn (tgt := 69) (off := 66) dX11_count_3 (by decide) (by decide) rfl rfl ?_
      refine V.aload_n (i := 0) dX11_count_69 rfl rfl ?_
      refine V.mgeti hE dX11_count_70 fl_X11_152 rfl ?_
      refine V.iret dX11_count_73 (Nat.le_of_ble_eq_true rfl) (Nat.le_of_ble_eq_true rfl) ?_
      exact hz _ rfl
    · skip
      refine V.iconst dX11_count_0 ic_0 ?_
      refine V.istore_n2 (by decide) dX11_count_1 ?_
      refine V.iload_n (i := 1) dX11_count_2 rfl rfl ?_
      refine V.tableIn (tgt := 74) (off := 71) dX11_count_3 (by decide) (by decide) rfl rfl ?_
      refine V.aload_n (i := 0) dX11_count_74 rfl rfl ?_
      refine V.mgeti hE dX11_count_75 fl_X11_128 rfl ?_
      refine V.iret dX11_count_78 (Nat.le_of_ble_eq_true rfl) (Nat.le_of_ble_eq_true rfl) ?_
      exact hz _ rfl
    · skip
      refine V.iconst dX11_count_0 ic_0 ?_
      refine V.istore_n2 (by decide) dX11_count_1 ?_
      refine V.iload_n (i := 1) dX11_count_2 rfl rfl ?_
      refine V.tableIn (tgt := 79) (off := 76) dX11_count_3 (by decide) (by decide) rfl rfl ?_
      refine V.aload_n (i := 0) dX11_count_79 rfl rfl ?_
      refine V.mgeti hE dX11_count_80 fl_X11_131 rfl ?_
      refine V.iret dX11_count_83 (Nat.le_of_ble_eq_true rfl) (Nat.le_of_ble_eq_true rfl) ?_
      exact hz _ rfl
    · skip
      refine V.iconst dX11_count_0 ic_0 ?_
      refine V.istore_n2 (by decide) dX11_count_1 ?_
      refine V.iload_n (i := 1) dX11_count_2 rfl rfl ?_
      refine V.tableIn (tgt := 84) (off := 81) dX11_count_3 (by decide) (by decide) rfl rfl ?_
      refine V.aload_n (i := 0) dX11_count_84 rfl rfl ?_
      refine V.mgeti hE dX11_count_85 fl_X11_193 rfl ?_
      refine V.iret dX11_count_88 (Nat.le_of_ble_eq_true rfl) (Nat.le_of_ble_eq_true rfl) ?_
      exact hz _ rfl
    · skip
      refine V.iconst dX11_count_0 ic_0 ?_
      refine V.istore_n2 (by decide) dX11_count_1 ?_
      refine V.iload_n (i := 1) dX11_count_2 rfl rfl ?_
      refine V.tableIn (tgt := 89) (off := 86) dX11_count_3 (by decide) (by decide) rfl rfl ?_
      refine V.aload_n (i := 0) dX11_count_89 rfl rfl ?_
      refine V.mgeti hE dX11_count_90 fl_X11_181 rfl ?_
      refine V.iret dX11_count_93 (Nat.le_of_ble_eq_true rfl) (Nat.le_of_ble_eq_true rfl) ?_
      exact hz _ rfl
    · skip
      refine V.iconst dX11_count_0 ic_0 ?_
      refine V.istore_n2 (by decide) dX11_count_1 ?_
      refine V.iload_n (i := 1) dX11_count_2 rfl rfl ?_
      refine V.tableIn (tgt := 94) (off := 91) dX11_count_3 (by decide) (by decide) rfl rfl ?_
      refine V.aload_n (i := 0) dX11_count_94 rfl rfl ?_
      refine V.mgeti hE dX11_count_95 fl_X11_134 rfl ?_
      refine V.iret dX11_count_98 (Nat.le_of_ble_eq_true rfl) (Nat.le_of_ble_eq_true rfl) ?_
      exact hz _ rfl
    · skip
      refine V.iconst dX11_count_0 ic_0 ?_
      refine V.istore_n2 (by decide) dX11_count_1 ?_
      refine V.iload_n (i := 1) dX11_count_2 rfl rfl ?_
      refine V.tableIn (tgt := 99) (off := 96) dX11_count_3 (by decide) (by decide) rfl rfl ?_
      refine V.aload_n (i := 0) dX11_count_99 rfl rfl ?_
      refine V.mgeti hE dX11_count_100 fl_X11_264 rfl ?_
      refine V.iret dX11_count_103 (Nat.le_of_ble_eq_true rfl) (Nat.le_of_ble_eq_true rfl) ?_
      exact hz _ rfl
    · skip
      refine V.iconst dX11_count_0 ic_0 ?_
      refine V.istore_n2 (by decide) dX11_count_1 ?_
      refine V.iload_n (i := 1) dX11_count_2 rfl rfl ?_
      refine V.tableIn (tgt := 104) (off := 101) dX11_count_3 (by decide) (by decide) rfl rfl ?_
      refine V.iconst dX11_count_104 ic_0 ?_
      refine V.istore_n3 (by decide) dX11_count_105 ?_
      exact L8 (hz _ rfl) (nSh G) 0 (by omega) _ rfl _
    · skip
      refine V.iconst dX11_count_0 ic_0 ?_
      refine V.istore_n2 (by decide) dX11_count_1 ?_
      refine V.iload_n (i := 1) dX11_count_2 rfl rfl ?_
      refine V.tableIn (tgt := 138) (off := 135) dX11_count_3 (by decide) (by decide) rfl rfl ?_
      refine V.iconst dX11_count_138 ic_0 ?_
      refine V.istore_n3 (by decide) dX11_count_139 ?_
      exact L9 (hz _ rfl) (nCa G) 0 (by omega) _ rfl _
    · skip
      refine V.iconst dX11_count_0 ic_0 ?_
      refine V.istore_n2 (by decide) dX11_count_1 ?_
      refine V.iload_n (i := 1) dX11_count_2 rfl rfl ?_
      refine V.tableIn (tgt := 173) (off := 170) dX11_count_3 (by decide) (by decide) rfl rfl ?_
      refine V.iconst dX11_count_173 ic_0 ?_
      refine V.istore_n3 (by decide) dX11_count_174 ?_
      exact L10 (hz _ rfl) (nSh G) 0 (by omega) _ rfl _
    · skip
      refine V.iconst dX11_count_0 ic_0 ?_
      refine V.istore_n2 (by decide) dX11_count_1 ?_
      refine V.iload_n (i := 1) dX11_count_2 rfl rfl ?_
      refine V.tableIn (tgt := 208) (off := 205) dX11_count_3 (by decide) (by decide) rfl rfl ?_
      refine V.aload_n (i := 0) dX11_count_208 rfl rfl ?_
      refine V.mgeti hE dX11_count_209 fl_X11_267 rfl ?_
      refine V.iret dX11_count_212 (Nat.le_of_ble_eq_true rfl) (Nat.le_of_ble_eq_true rfl) ?_
      exact hz _ rfl
  · skip
    refine V.iconst dX11_count_0 ic_0 ?_
    refine V.istore_n2 (by decide) dX11_count_1 ?_
    refine V.iload_n (i := 1) dX11_count_2 rfl rfl ?_
    refine V.tableOut (tgt := 213) dX11_count_3 (by omega) rfl ?_
    refine V.aload_n (i := 0) dX11_count_213 rfl rfl ?_
    refine V.iconst dX11_count_214 ic_1 ?_
    refine V.cq1D hE dX11_count_215 lk_X11_137 rfl (c_finding hE _ (by decide) ⟨rfl, rfl⟩) (by decide) (by decide) (Nat.le_of_ble_eq_true rfl) (Nat.le_of_ble_eq_true rfl) (Nat.le_of_ble_eq_true rfl) ?_
    refine V.iret dX11_count_218 (Nat.le_of_ble_eq_true rfl) (Nat.le_of_ble_eq_true rfl) ?_
    exact pr_post (if_neg hg) hp
end REF12

