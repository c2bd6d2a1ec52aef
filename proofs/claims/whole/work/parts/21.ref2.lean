/-! ===== the model: ships that change, owners ===== -/
theorem inc1 (k : Nat) : nI k + Int32.ofInt 1 = nI (k + 1) := nI_1 k
theorem lpT {x : Int32} {n k : Nat} (hx : x = nI n) (h : n ≤ k) (hk : k < 2 ^ 31) : x ≤ nI k := by rw [hx]; exact nI_le h hk
theorem lpF {x : Int32} {n k : Nat} (hx : x = nI n) (h : k < n) (hn : n < 2 ^ 31) : ¬ x ≤ nI k := by rw [hx]; exact nI_ge h hn
theorem n3 (i w : Nat) : nI 3 * nI i + nI w = nI (3 * i + w) := by rw [pk_mul, nI_add]
theorem neN {a b : Nat} (h : a ≠ b) (ha : a < 2 ^ 31) (hb : b < 2 ^ 31) : ¬ nI a = nI b := fun e => h ((nI_eq ha hb).mp e)
theorem topOf_lt (j : Nat) : topOf j < 2 ^ 31 := by
  unfold topOf
  split
  · decide
  · split <;> decide
theorem fstOf_s (p : Nat → Bool) (m k : Nat) : fstOf p (m + 1) k = if p k then k else fstOf p m (k + 1) := rfl
section REF2
variable {E : VE} {σ : Sg} {G : GS} {post : Option Value → Sg → Prop}
set_option maxRecDepth 100000 in
theorem c_hadOn (hE : eF E = true) (i w : Nat) (on : Int32) (hi : i < 16) (hw : w < 3) (hI : Inv G) (hp : post (some (.int (hadOn G i w on))) (wG σ G)) : MX11_hadOn E 1 0 0 [.ref (eQ E 48), .int (nI i), .int (nI w), .int on] (wG σ G) post := by
  refine MA.of RX11 "hadOn" [some (.ref (eQ E 48)), some (.int (nI i)), some (.int (nI w)), some (.int on), none, none] rfl rfl rfl (catAll rfl) (Nat.le_of_ble_eq_true rfl) rfl (fun X => ?_)
  have hn := hI.chN
  have loop : ∀ m k, k + m = nCh G → ∀ v, v = hadK G i w on k → V E X RX11 "hadOn" cX11_hadOn 6 (some .int) 1 0 0 (QM E X post 0 0) (wG σ G) 0 0 15 [some (.ref (eQ E 48)), some (.int (nI i)), some (.int (nI w)), some (.int on), some (.int v), some (.int (nI k))] [] := by
    intro m
    induction m with
    | zero =>
      intro k hk v hv
      refine V.iload (i := 5) dX11_hadOn_15 rfl ?_
      refine V.aload_n (i := 0) dX11_hadOn_17 rfl rfl ?_
      refine V.mgeti hE dX11_hadOn_18 fl_X11_152 rfl ?_
      refine V.icmp_geT (tgt := 70) dX11_hadOn_21 rfl (lpT hn.1 (by omega) (by omega)) ?_
      refine V.iload (i := 4) dX11_hadOn_70 rfl ?_
      refine V.iret dX11_hadOn_72 (Nat.le_of_ble_eq_true rfl) (Nat.le_of_ble_eq_true rfl) ?_
      exact i_post (by rw [hv, hadOn, show k = nCh G by omega]) hp
    | succ m ih =>
      intro k hk v hv
      refine V.iload (i := 5) dX11_hadOn_15 rfl ?_
      refine V.aload_n (i := 0) dX11_hadOn_17 rfl rfl ?_
      refine V.mgeti hE dX11_hadOn_18 fl_X11_152 rfl ?_
      refine V.icmp_geF (tgt := 70) dX11_hadOn_21 rfl (lpF hn.1 (by omega) (by omega)) ?_
      refine V.aload_n (i := 0) dX11_hadOn_24 rfl rfl ?_
      refine V.mgeta hE dX11_hadOn_25 fl_X11_22 rfl ?_
      refine V.iload (i := 5) dX11_hadOn_28 rfl ?_
      refine V.miald hE dX11_hadOn_30 rfl rfl rfl (show _ < 60 from (by omega)) ?_
      refine V.iconst dX11_hadOn_31 ic_3 ?_
      refine V.iload_n (i := 1) dX11_hadOn_32 rfl rfl ?_
      refine V.imul dX11_hadOn_33 ?_
      refine V.iload_n (i := 2) dX11_hadOn_34 rfl rfl ?_
      refine V.iadd dX11_hadOn_35 ?_
      refine V.as _ (n3 i w) ?_
      refine V.icmp_ne (tgt := 60) dX11_hadOn_36 rfl (fun c36 => ?_) (fun c36 => ?_)
      · refine V.iload (i := 4) dX11_hadOn_60 rfl ?_
        refine V.istore4 (by decide) dX11_hadOn_62 ?_
        refine V.iinc5 (by decide) dX11_hadOn_64 (inc1 _) ?_
        refine V.goto (tgt := 15) dX11_hadOn_67 rfl ?_
        first | exact ih (k + 1) (by omega) _ (if_pos ⟨c36, Int32.not_lt.mp c47⟩).symm | exact ih (k + 1) (by omega) _ (hv.trans (if_neg (fun z => c36 z.1)).symm) | exact ih (k + 1) (by omega) _ (hv.trans (if_neg (fun z => absurd c47 (Int32.not_lt.mpr z.2))).symm)
      · refine V.aload_n (i := 0) dX11_hadOn_39 rfl rfl ?_
        refine V.mgeta hE dX11_hadOn_40 fl_X11_25 rfl ?_
        refine V.iload (i := 5) dX11_hadOn_43 rfl ?_
        refine V.miald hE dX11_hadOn_45 rfl rfl rfl (show _ < 60 from (by omega)) ?_
        refine V.iload_n (i := 3) dX11_hadOn_46 rfl rfl ?_
        refine V.icmp_gt (tgt := 60) dX11_hadOn_47 rfl (fun c47 => ?_) (fun c47 => ?_)
        · refine V.iload (i := 4) dX11_hadOn_60 rfl ?_
          refine V.istore4 (by decide) dX11_hadOn_62 ?_
          refine V.iinc5 (by decide) dX11_hadOn_64 (inc1 _) ?_
          refine V.goto (tgt := 15) dX11_hadOn_67 rfl ?_
          first | exact ih (k + 1) (by omega) _ (if_pos ⟨c36, Int32.not_lt.mp c47⟩).symm | exact ih (k + 1) (by omega) _ (hv.trans (if_neg (fun z => c36 z.1)).symm) | exact ih (k + 1) (by omega) _ (hv.trans (if_neg (fun z => absurd c47 (Int32.not_lt.mpr z.2))).symm)
        · refine V.aload_n (i := 0) dX11_hadOn_50 rfl rfl ?_
          refine V.mgeta hE dX11_hadOn_51 fl_X11_28 rfl ?_
          refine V.iload (i := 5) dX11_hadOn_54 rfl ?_
          refine V.miald hE dX11_hadOn_56 rfl rfl rfl (show _ < 60 from (by omega)) ?_
          refine V.goto (tgt := 62) dX11_hadOn_57 rfl ?_
          refine V.istore4 (by decide) dX11_hadOn_62 ?_
          refine V.iinc5 (by decide) dX11_hadOn_64 (inc1 _) ?_
          refine V.goto (tgt := 15) dX11_hadOn_67 rfl ?_
          first | exact ih (k + 1) (by omega) _ (if_pos ⟨c36, Int32.not_lt.mp c47⟩).symm | exact ih (k + 1) (by omega) _ (hv.trans (if_neg (fun z => c36 z.1)).symm) | exact ih (k + 1) (by omega) _ (hv.trans (if_neg (fun z => absurd c47 (Int32.not_lt.mpr z.2))).symm)
  refine V.aload_n (i := 0) dX11_hadOn_0 rfl rfl ?_
  refine V.mgeta hE dX11_hadOn_1 fl_X11_19 rfl ?_
  refine V.iconst dX11_hadOn_4 ic_3 ?_
  refine V.iload_n (i := 1) dX11_hadOn_5 rfl rfl ?_
  refine V.imul dX11_hadOn_6 ?_
  refine V.iload_n (i := 2) dX11_hadOn_7 rfl rfl ?_
  refine V.iadd dX11_hadOn_8 ?_
  refine V.as _ (n3 i w) ?_
  refine V.miald hE dX11_hadOn_9 rfl rfl rfl (show _ < 48 from (by omega)) ?_
  refine V.istore4 (by decide) dX11_hadOn_10 ?_
  refine V.iconst dX11_hadOn_12 ic_0 ?_
  refine V.istore5 (by decide) dX11_hadOn_13 ?_
  exact loop (nCh G) 0 (by omega) _ rfl
set_option maxRecDepth 100000 in
theorem c_has (hE : eF E = true) (s w on : Int32) (hI : Inv G) (hp : post (some (.int (s_has G s w on).1)) (wG σ (s_has G s w on).2)) : MX11_has E 3 0 0 [.ref (eQ E 48), .int s, .int w, .int on] (wG σ G) post := by
  refine MA.of RX11 "has" [some (.ref (eQ E 48)), some (.int s), some (.int w), some (.int on)] rfl rfl rfl (catAll rfl) (Nat.le_of_ble_eq_true rfl) rfl (fun X => ?_)
  have h16 := hI.shN.2
  refine V.aload_n (i := 0) dX11_has_0 rfl rfl ?_
  refine V.iload_n (i := 1) dX11_has_1 rfl rfl ?_
  refine V.cq1D hE dX11_has_2 lk_X11_141 rfl (c_isShip hE _ hI ⟨rfl, rfl⟩) (by decide) (by decide) (Nat.le_of_ble_eq_true rfl) (Nat.le_of_ble_eq_true rfl) (Nat.le_of_ble_eq_true rfl) ?_
  refine V.ifb_eq (tgt := 24) dX11_has_5 rfl (fun c5 => ?_) (fun c5 => ?_)
  · refine V.aload_n (i := 0) dX11_has_24 rfl rfl ?_
    refine V.iconst dX11_has_25 ic_1 ?_
    refine V.cq1D hE dX11_has_26 lk_X11_137 rfl (c_finding hE _ (by decide) ⟨rfl, rfl⟩) (by decide) (by decide) (Nat.le_of_ble_eq_true rfl) (Nat.le_of_ble_eq_true rfl) (Nat.le_of_ble_eq_true rfl) ?_
    refine V.iret dX11_has_29 (Nat.le_of_ble_eq_true rfl) (Nat.le_of_ble_eq_true rfl) ?_
    exact pr_post (if_neg (by omega)) hp
  · refine V.iload_n (i := 2) dX11_has_8 rfl rfl ?_
    refine V.iconst dX11_has_9 ic_0 ?_
    refine V.iconst dX11_has_10 ic_2 ?_
    refine V.cs3D dX11_has_11 lk_X11_124 (c_isInN _ 0 2 (by decide) (by decide) ⟨rfl, rfl⟩) (by decide) (by decide) (Nat.le_of_ble_eq_true rfl) (Nat.le_of_ble_eq_true rfl) (Nat.le_of_ble_eq_true rfl) ?_
    refine V.ifb_eq (tgt := 24) dX11_has_14 rfl (fun c14 => ?_) (fun c14 => ?_)
    · refine V.aload_n (i := 0) dX11_has_24 rfl rfl ?_
      refine V.iconst dX11_has_25 ic_1 ?_
      refine V.cq1D hE dX11_has_26 lk_X11_137 rfl (c_finding hE _ (by decide) ⟨rfl, rfl⟩) (by decide) (by decide) (Nat.le_of_ble_eq_true rfl) (Nat.le_of_ble_eq_true rfl) (Nat.le_of_ble_eq_true rfl) ?_
      refine V.iret dX11_has_29 (Nat.le_of_ble_eq_true rfl) (Nat.le_of_ble_eq_true rfl) ?_
      exact pr_post (if_neg (by omega)) hp
    · refine V.iload_n (i := 3) dX11_has_17 rfl rfl ?_
      refine V.cs1D dX11_has_18 lk_X11_159 (c_isDay _ ⟨rfl, rfl⟩) (by decide) (by decide) (Nat.le_of_ble_eq_true rfl) (Nat.le_of_ble_eq_true rfl) (Nat.le_of_ble_eq_true rfl) ?_
      refine V.ifb_ne (tgt := 30) dX11_has_21 rfl (fun c21 => ?_) (fun c21 => ?_)
      · obtain ⟨i, hi, rfl⟩ := idxOf c5
        obtain ⟨j, hj, rfl⟩ := idxOf (x := w) (n := 3) (by omega)
        refine V.aload_n (i := 0) dX11_has_30 rfl rfl ?_
        refine V.iload_n (i := 1) dX11_has_31 rfl rfl ?_
        refine V.iload_n (i := 2) dX11_has_32 rfl rfl ?_
        refine V.iload_n (i := 3) dX11_has_33 rfl rfl ?_
        refine V.cq3D hE dX11_has_34 lk_X11_155 rfl (c_hadOn hE i j on (by omega) hj hI ⟨rfl, rfl⟩) (by decide) (by decide) (Nat.le_of_ble_eq_true rfl) (Nat.le_of_ble_eq_true rfl) (Nat.le_of_ble_eq_true rfl) ?_
        refine V.iret dX11_has_37 (Nat.le_of_ble_eq_true rfl) (Nat.le_of_ble_eq_true rfl) ?_
        exact pr_post ((if_pos (by omega)).trans (by rw [tn_nI (by omega), tn_nI (by omega)])) hp
      · refine V.aload_n (i := 0) dX11_has_24 rfl rfl ?_
        refine V.iconst dX11_has_25 ic_1 ?_
        refine V.cq1D hE dX11_has_26 lk_X11_137 rfl (c_finding hE _ (by decide) ⟨rfl, rfl⟩) (by decide) (by decide) (Nat.le_of_ble_eq_true rfl) (Nat.le_of_ble_eq_true rfl) (Nat.le_of_ble_eq_true rfl) ?_
        refine V.iret dX11_has_29 (Nat.le_of_ble_eq_true rfl) (Nat.le_of_ble_eq_true rfl) ?_
        exact pr_post (if_neg (by omega)) hp
set_option maxRecDepth 100000 in
theorem c_change (hE : eF E = true) (s w v : Int32) (hI : Inv G) (hp : post (some (.int (s_change G s w v).1)) (wG σ (s_change G s w v).2)) : MX11_change E 3 0 0 [.ref (eQ E 48), .int s, .int w, .int v] (wG σ G) post := by
  refine MA.of RX11 "change" [some (.ref (eQ E 48)), some (.int s), some (.int w), some (.int v), none] rfl rfl rfl (catAll rfl) (Nat.le_of_ble_eq_true rfl) rfl (fun X => ?_)
  have h16 := hI.shN.2
  have hn := hI.chN
  by_cases hws : 0 ≤ w.toInt ∧ w.toInt ≤ 2
  · obtain ⟨j, hj, rfl⟩ := idxOf (x := w) (n := 3) (by omega)
    have hz : topOf (tn (nI j)) = topOf j := by rw [tn_nI (by omega)]
    refine V.aload_n (i := 0) dX11_change_0 rfl rfl ?_
    refine V.iload_n (i := 1) dX11_change_1 rfl rfl ?_
    refine V.cq1D hE dX11_change_2 lk_X11_141 rfl (c_isShip hE _ hI ⟨rfl, rfl⟩) (by decide) (by decide) (Nat.le_of_ble_eq_true rfl) (Nat.le_of_ble_eq_true rfl) (Nat.le_of_ble_eq_true rfl) ?_
    refine V.ifb_eq (tgt := 45) dX11_change_5 rfl (fun c5 => ?_) (fun c5 => ?_)
    · refine V.aload_n (i := 0) dX11_change_45 rfl rfl ?_
      refine V.iconst dX11_change_46 ic_1 ?_
      refine V.cq1D hE dX11_change_47 lk_X11_137 rfl (c_finding hE _ (by decide) ⟨rfl, rfl⟩) (by decide) (by decide) (Nat.le_of_ble_eq_true rfl) (Nat.le_of_ble_eq_true rfl) (Nat.le_of_ble_eq_true rfl) ?_
      refine V.iret dX11_change_50 (Nat.le_of_ble_eq_true rfl) (Nat.le_of_ble_eq_true rfl) ?_
      exact pr_post (if_neg (by rw [hz]; omega)) hp
    · refine V.iload_n (i := 2) dX11_change_8 rfl rfl ?_
      refine V.iconst dX11_change_9 ic_0 ?_
      refine V.iconst dX11_change_10 ic_2 ?_
      refine V.cs3D dX11_change_11 lk_X11_124 (c_isInN _ 0 2 (by decide) (by decide) ⟨rfl, rfl⟩) (by decide) (by decide) (Nat.le_of_ble_eq_true rfl) (Nat.le_of_ble_eq_true rfl) (Nat.le_of_ble_eq_true rfl) ?_
      refine V.ifb_eqF (tgt := 45) dX11_change_14 rfl hws ?_
      refine V.iload_n (i := 3) dX11_change_17 rfl rfl ?_
      refine V.iconst dX11_change_18 ic_0 ?_
      refine V.iload_n (i := 2) dX11_change_19 rfl rfl ?_
      refine V.if_ne (tgt := 28) dX11_change_20 rfl (fun c20 => ?_) (fun c20 => ?_)
      · refine V.iload_n (i := 2) dX11_change_28 rfl rfl ?_
        refine V.iconst dX11_change_29 ic_1 ?_
        refine V.icmp_ne (tgt := 37) dX11_change_30 rfl (fun c30 => ?_) (fun c30 => ?_)
        · refine V.bipush dX11_change_37 bc_9 ?_
          refine V.as (nI (topOf j)) (by rcases (show j = 0 ∨ j = 1 ∨ j = 2 by omega) with rfl | rfl | rfl <;> first | rfl | exact absurd (by decide) c20 | exact absurd c20 (by decide) | exact absurd (by decide) c30 | exact absurd c30 (by decide)) ?_
          refine V.cs3D dX11_change_39 lk_X11_124 (c_isInN _ 0 (topOf j) (by decide) (topOf_lt j) ⟨rfl, rfl⟩) (by decide) (by decide) (Nat.le_of_ble_eq_true rfl) (Nat.le_of_ble_eq_true rfl) (Nat.le_of_ble_eq_true rfl) ?_
          refine V.ifb_ne (tgt := 51) dX11_change_42 rfl (fun c42 => ?_) (fun c42 => ?_)
          · obtain ⟨i, hi, rfl⟩ := idxOf c5
            refine V.aload_n (i := 0) dX11_change_51 rfl rfl ?_
            refine V.mgeti hE dX11_change_52 fl_X11_152 rfl ?_
            refine V.bipush dX11_change_55 bc_60 ?_
            refine V.icmp_ne (tgt := 66) dX11_change_57 rfl (fun c57 => ?_) (fun c57 => ?_)
            · refine V.aload_n (i := 0) dX11_change_66 rfl rfl ?_
              refine V.iload_n (i := 1) dX11_change_67 rfl rfl ?_
              refine V.iload_n (i := 2) dX11_change_68 rfl rfl ?_
              refine V.aload_n (i := 0) dX11_change_69 rfl rfl ?_
              refine V.mgeti hE dX11_change_70 fl_X11_134 rfl ?_
              refine V.cq3D hE dX11_change_73 lk_X11_155 rfl (c_hadOn hE i j (G 0 0) (by omega) hj hI ⟨rfl, rfl⟩) (by decide) (by decide) (Nat.le_of_ble_eq_true rfl) (Nat.le_of_ble_eq_true rfl) (Nat.le_of_ble_eq_true rfl) ?_
              refine V.istore4 (by decide) dX11_change_76 ?_
              refine V.aload_n (i := 0) dX11_change_78 rfl rfl ?_
              refine V.mgeta hE dX11_change_79 fl_X11_22 rfl ?_
              refine V.aload_n (i := 0) dX11_change_82 rfl rfl ?_
              refine V.mgeti hE dX11_change_83 fl_X11_152 rfl ?_
              refine V.iconst dX11_change_86 ic_3 ?_
              refine V.iload_n (i := 1) dX11_change_87 rfl rfl ?_
              refine V.imul dX11_change_88 ?_
              refine V.iload_n (i := 2) dX11_change_89 rfl rfl ?_
              refine V.iadd dX11_change_90 ?_
              refine V.as _ (n3 i j) ?_
              refine V.miast hE dX11_change_91 rfl rfl hn.1 (show _ < 60 from (by have := hn.2; have : nCh G ≠ 60 := fun e => c57 (by rw [hn.1, e]); omega)) ?_
              refine V.aload_n (i := 0) dX11_change_92 rfl rfl ?_
              refine V.mgeta hE dX11_change_93 fl_X11_25 rfl ?_
              refine V.aload_n (i := 0) dX11_change_96 rfl rfl ?_
              refine V.mgeti hE dX11_change_97 fl_X11_152 rfl ?_
              refine V.aload_n (i := 0) dX11_change_100 rfl rfl ?_
              refine V.mgeti hE dX11_change_101 fl_X11_134 rfl ?_
              refine V.miast hE dX11_change_104 rfl rfl hn.1 (show _ < 60 from (by have := hn.2; have : nCh G ≠ 60 := fun e => c57 (by rw [hn.1, e]); omega)) ?_
              refine V.aload_n (i := 0) dX11_change_105 rfl rfl ?_
              refine V.mgeta hE dX11_change_106 fl_X11_28 rfl ?_
              refine V.aload_n (i := 0) dX11_change_109 rfl rfl ?_
              refine V.mgeti hE dX11_change_110 fl_X11_152 rfl ?_
              refine V.iload_n (i := 3) dX11_change_113 rfl rfl ?_
              refine V.miast hE dX11_change_114 rfl rfl hn.1 (show _ < 60 from (by have := hn.2; have : nCh G ≠ 60 := fun e => c57 (by rw [hn.1, e]); omega)) ?_
              refine V.aload_n (i := 0) dX11_change_115 rfl rfl ?_
              refine V.dup dX11_change_116 rfl ?_
              refine V.mgeti hE dX11_change_117 fl_X11_152 rfl ?_
              refine V.iconst dX11_change_120 ic_1 ?_
              refine V.iadd dX11_change_121 ?_
              refine V.as (nI (nCh G + 1)) (show G 6 0 + nI 1 = _ by rw [hn.1, nI_add]) ?_
              refine V.mputi hE dX11_change_122 fl_X11_152 rfl rfl rfl ?_
              refine V.iload (i := 4) dX11_change_125 rfl ?_
              refine V.iret dX11_change_127 (Nat.le_of_ble_eq_true rfl) (Nat.le_of_ble_eq_true rfl) ?_
              exact pr_post ((if_pos (by rw [hz]; omega)).trans ((if_neg (fun e => c57 (by rw [hn.1, e]))).trans (by rw [tn_nI (by omega), tn_nI (by omega)]; rfl))) hp
            · refine V.aload_n (i := 0) dX11_change_60 rfl rfl ?_
              refine V.iconst dX11_change_61 ic_4 ?_
              refine V.cq1D hE dX11_change_62 lk_X11_137 rfl (c_finding hE _ (by decide) ⟨rfl, rfl⟩) (by decide) (by decide) (Nat.le_of_ble_eq_true rfl) (Nat.le_of_ble_eq_true rfl) (Nat.le_of_ble_eq_true rfl) ?_
              refine V.iret dX11_change_65 (Nat.le_of_ble_eq_true rfl) (Nat.le_of_ble_eq_true rfl) ?_
              exact pr_post ((if_pos (by rw [hz]; omega)).trans (if_pos (by have := hn.2; have := hn.1.symm.trans c57; exact (nI_eq (by omega) (by decide)).mp this))) hp
          · refine V.aload_n (i := 0) dX11_change_45 rfl rfl ?_
            refine V.iconst dX11_change_46 ic_1 ?_
            refine V.cq1D hE dX11_change_47 lk_X11_137 rfl (c_finding hE _ (by decide) ⟨rfl, rfl⟩) (by decide) (by decide) (Nat.le_of_ble_eq_true rfl) (Nat.le_of_ble_eq_true rfl) (Nat.le_of_ble_eq_true rfl) ?_
            refine V.iret dX11_change_50 (Nat.le_of_ble_eq_true rfl) (Nat.le_of_ble_eq_true rfl) ?_
            exact pr_post (if_neg (by rw [hz]; omega)) hp
        · refine V.iconst dX11_change_33 ic_5 ?_
          refine V.goto (tgt := 39) dX11_change_34 rfl ?_
          refine V.as (nI (topOf j)) (by rcases (show j = 0 ∨ j = 1 ∨ j = 2 by omega) with rfl | rfl | rfl <;> first | rfl | exact absurd (by decide) c20 | exact absurd c20 (by decide) | exact absurd (by decide) c30 | exact absurd c30 (by decide)) ?_
          refine V.cs3D dX11_change_39 lk_X11_124 (c_isInN _ 0 (topOf j) (by decide) (topOf_lt j) ⟨rfl, rfl⟩) (by decide) (by decide) (Nat.le_of_ble_eq_true rfl) (Nat.le_of_ble_eq_true rfl) (Nat.le_of_ble_eq_true rfl) ?_
          refine V.ifb_ne (tgt := 51) dX11_change_42 rfl (fun c42 => ?_) (fun c42 => ?_)
          · obtain ⟨i, hi, rfl⟩ := idxOf c5
            refine V.aload_n (i := 0) dX11_change_51 rfl rfl ?_
            refine V.mgeti hE dX11_change_52 fl_X11_152 rfl ?_
            refine V.bipush dX11_change_55 bc_60 ?_
            refine V.icmp_ne (tgt := 66) dX11_change_57 rfl (fun c57 => ?_) (fun c57 => ?_)
            · refine V.aload_n (i := 0) dX11_change_66 rfl rfl ?_
              refine V.iload_n (i := 1) dX11_change_67 rfl rfl ?_
              refine V.iload_n (i := 2) dX11_change_68 rfl rfl ?_
              refine V.aload_n (i := 0) dX11_change_69 rfl rfl ?_
              refine V.mgeti hE dX11_change_70 fl_X11_134 rfl ?_
              refine V.cq3D hE dX11_change_73 lk_X11_155 rfl (c_hadOn hE i j (G 0 0) (by omega) hj hI ⟨rfl, rfl⟩) (by decide) (by decide) (Nat.le_of_ble_eq_true rfl) (Nat.le_of_ble_eq_true rfl) (Nat.le_of_ble_eq_true rfl) ?_
              refine V.istore4 (by decide) dX11_change_76 ?_
              refine V.aload_n (i := 0) dX11_change_78 rfl rfl ?_
              refine V.mgeta hE dX11_change_79 fl_X11_22 rfl ?_
              refine V.aload_n (i := 0) dX11_change_82 rfl rfl ?_
              refine V.mgeti hE dX11_change_83 fl_X11_152 rfl ?_
              refine V.iconst dX11_change_86 ic_3 ?_
              refine V.iload_n (i := 1) dX11_change_87 rfl rfl ?_
              refine V.imul dX11_change_88 ?_
              refine V.iload_n (i := 2) dX11_change_89 rfl rfl ?_
              refine V.iadd dX11_change_90 ?_
              refine V.as _ (n3 i j) ?_
              refine V.miast hE dX11_change_91 rfl rfl hn.1 (show _ < 60 from (by have := hn.2; have : nCh G ≠ 60 := fun e => c57 (by rw [hn.1, e]); omega)) ?_
              refine V.aload_n (i := 0) dX11_change_92 rfl rfl ?_
              refine V.mgeta hE dX11_change_93 fl_X11_25 rfl ?_
              refine V.aload_n (i := 0) dX11_change_96 rfl rfl ?_
              refine V.mgeti hE dX11_change_97 fl_X11_152 rfl ?_
              refine V.aload_n (i := 0) dX11_change_100 rfl rfl ?_
              refine V.mgeti hE dX11_change_101 fl_X11_134 rfl ?_
              refine V.miast hE dX11_change_104 rfl rfl hn.1 (show _ < 60 from (by have := hn.2; have : nCh G ≠ 60 := fun e => c57 (by rw [hn.1, e]); omega)) ?_
              refine V.aload_n (i := 0) dX11_change_105 rfl rfl ?_
              refine V.mgeta hE dX11_change_106 fl_X11_28 rfl ?_
              refine V.aload_n (i := 0) dX11_change_109 rfl rfl ?_
              refine V.mgeti hE dX11_change_110 fl_X11_152 rfl ?_
              refine V.iload_n (i := 3) dX11_change_113 rfl rfl ?_
              refine V.miast hE dX11_change_114 rfl rfl hn.1 (show _ < 60 from (by have := hn.2; have : nCh G ≠ 60 := fun e => c57 (by rw [hn.1, e]); omega)) ?_
              refine V.aload_n (i := 0) dX11_change_115 rfl rfl ?_
              refine V.dup dX11_change_116 rfl ?_
              refine V.mgeti hE dX11_change_117 fl_X11_152 rfl ?_
              refine V.iconst dX11_change_120 ic_1 ?_
              refine V.iadd dX11_change_121 ?_
              refine V.as (nI (nCh G + 1)) (show G 6 0 + nI 1 = _ by rw [hn.1, nI_add]) ?_
              refine V.mputi hE dX11_change_122 fl_X11_152 rfl rfl rfl ?_
              refine V.iload (i := 4) dX11_change_125 rfl ?_
              refine V.iret dX11_change_127 (Nat.le_of_ble_eq_true rfl) (Nat.le_of_ble_eq_true rfl) ?_
              exact pr_post ((if_pos (by rw [hz]; omega)).trans ((if_neg (fun e => c57 (by rw [hn.1, e]))).trans (by rw [tn_nI (by omega), tn_nI (by omega)]; rfl))) hp
            · refine V.aload_n (i := 0) dX11_change_60 rfl rfl ?_
              refine V.iconst dX11_change_61 ic_4 ?_
              refine V.cq1D hE dX11_change_62 lk_X11_137 rfl (c_finding hE _ (by decide) ⟨rfl, rfl⟩) (by decide) (by decide) (Nat.le_of_ble_eq_true rfl) (Nat.le_of_ble_eq_true rfl) (Nat.le_of_ble_eq_true rfl) ?_
              refine V.iret dX11_change_65 (Nat.le_of_ble_eq_true rfl) (Nat.le_of_ble_eq_true rfl) ?_
              exact pr_post ((if_pos (by rw [hz]; omega)).trans (if_pos (by have := hn.2; have := hn.1.symm.trans c57; exact (nI_eq (by omega) (by decide)).mp this))) hp
          · refine V.aload_n (i := 0) dX11_change_45 rfl rfl ?_
            refine V.iconst dX11_change_46 ic_1 ?_
            refine V.cq1D hE dX11_change_47 lk_X11_137 rfl (c_finding hE _ (by decide) ⟨rfl, rfl⟩) (by decide) (by decide) (Nat.le_of_ble_eq_true rfl) (Nat.le_of_ble_eq_true rfl) (Nat.le_of_ble_eq_true rfl) ?_
            refine V.iret dX11_change_50 (Nat.le_of_ble_eq_true rfl) (Nat.le_of_ble_eq_true rfl) ?_
            exact pr_post (if_neg (by rw [hz]; omega)) hp
      · refine V.bipush dX11_change_23 bc_99 ?_
        refine V.goto (tgt := 39) dX11_change_25 rfl ?_
        refine V.as (nI (topOf j)) (by rcases (show j = 0 ∨ j = 1 ∨ j = 2 by omega) with rfl | rfl | rfl <;> first | rfl | exact absurd (by decide) c20 | exact absurd c20 (by decide) | exact absurd (by decide) c30 | exact absurd c30 (by decide)) ?_
        refine V.cs3D dX11_change_39 lk_X11_124 (c_isInN _ 0 (topOf j) (by decide) (topOf_lt j) ⟨rfl, rfl⟩) (by decide) (by decide) (Nat.le_of_ble_eq_true rfl) (Nat.le_of_ble_eq_true rfl) (Nat.le_of_ble_eq_true rfl) ?_
        refine V.ifb_ne (tgt := 51) dX11_change_42 rfl (fun c42 => ?_) (fun c42 => ?_)
        · obtain ⟨i, hi, rfl⟩ := idxOf c5
          refine V.aload_n (i := 0) dX11_change_51 rfl rfl ?_
          refine V.mgeti hE dX11_change_52 fl_X11_152 rfl ?_
          refine V.bipush dX11_change_55 bc_60 ?_
          refine V.icmp_ne (tgt := 66) dX11_change_57 rfl (fun c57 => ?_) (fun c57 => ?_)
          · refine V.aload_n (i := 0) dX11_change_66 rfl rfl ?_
            refine V.iload_n (i := 1) dX11_change_67 rfl rfl ?_
            refine V.iload_n (i := 2) dX11_change_68 rfl rfl ?_
            refine V.aload_n (i := 0) dX11_change_69 rfl rfl ?_
            refine V.mgeti hE dX11_change_70 fl_X11_134 rfl ?_
            refine V.cq3D hE dX11_change_73 lk_X11_155 rfl (c_hadOn hE i j (G 0 0) (by omega) hj hI ⟨rfl, rfl⟩) (by decide) (by decide) (Nat.le_of_ble_eq_true rfl) (Nat.le_of_ble_eq_true rfl) (Nat.le_of_ble_eq_true rfl) ?_
            refine V.istore4 (by decide) dX11_change_76 ?_
            refine V.aload_n (i := 0) dX11_change_78 rfl rfl ?_
            refine V.mgeta hE dX11_change_79 fl_X11_22 rfl ?_
            refine V.aload_n (i := 0) dX11_change_82 rfl rfl ?_
            refine V.mgeti hE dX11_change_83 fl_X11_152 rfl ?_
            refine V.iconst dX11_change_86 ic_3 ?_
            refine V.iload_n (i := 1) dX11_change_87 rfl rfl ?_
            refine V.imul dX11_change_88 ?_
            refine V.iload_n (i := 2) dX11_change_89 rfl rfl ?_
            refine V.iadd dX11_change_90 ?_
            refine V.as _ (n3 i j) ?_
            refine V.miast hE dX11_change_91 rfl rfl hn.1 (show _ < 60 from (by have := hn.2; have : nCh G ≠ 60 := fun e => c57 (by rw [hn.1, e]); omega)) ?_
            refine V.aload_n (i := 0) dX11_change_92 rfl rfl ?_
            refine V.mgeta hE dX11_change_93 fl_X11_25 rfl ?_
            refine V.aload_n (i := 0) dX11_change_96 rfl rfl ?_
            refine V.mgeti hE dX11_change_97 fl_X11_152 rfl ?_
            refine V.aload_n (i := 0) dX11_change_100 rfl rfl ?_
            refine V.mgeti hE dX11_change_101 fl_X11_134 rfl ?_
            refine V.miast hE dX11_change_104 rfl rfl hn.1 (show _ < 60 from (by have := hn.2; have : nCh G ≠ 60 := fun e => c57 (by rw [hn.1, e]); omega)) ?_
            refine V.aload_n (i := 0) dX11_change_105 rfl rfl ?_
            refine V.mgeta hE dX11_change_106 fl_X11_28 rfl ?_
            refine V.aload_n (i := 0) dX11_change_109 rfl rfl ?_
            refine V.mgeti hE dX11_change_110 fl_X11_152 rfl ?_
            refine V.iload_n (i := 3) dX11_change_113 rfl rfl ?_
            refine V.miast hE dX11_change_114 rfl rfl hn.1 (show _ < 60 from (by have := hn.2; have : nCh G ≠ 60 := fun e => c57 (by rw [hn.1, e]); omega)) ?_
            refine V.aload_n (i := 0) dX11_change_115 rfl rfl ?_
            refine V.dup dX11_change_116 rfl ?_
            refine V.mgeti hE dX11_change_117 fl_X11_152 rfl ?_
            refine V.iconst dX11_change_120 ic_1 ?_
            refine V.iadd dX11_change_121 ?_
            refine V.as (nI (nCh G + 1)) (show G 6 0 + nI 1 = _ by rw [hn.1, nI_add]) ?_
            refine V.mputi hE dX11_change_122 fl_X11_152 rfl rfl rfl ?_
            refine V.iload (i := 4) dX11_change_125 rfl ?_
            refine V.iret dX11_change_127 (Nat.le_of_ble_eq_true rfl) (Nat.le_of_ble_eq_true rfl) ?_
            exact pr_post ((if_pos (by rw [hz]; omega)).trans ((if_neg (fun e => c57 (by rw [hn.1, e]))).trans (by rw [tn_nI (by omega), tn_nI (by omega)]; rfl))) hp
          · refine V.aload_n (i := 0) dX11_change_60 rfl rfl ?_
            refine V.iconst dX11_change_61 ic_4 ?_
            refine V.cq1D hE dX11_change_62 lk_X11_137 rfl (c_finding hE _ (by decide) ⟨rfl, rfl⟩) (by decide) (by decide) (Nat.le_of_ble_eq_true rfl) (Nat.le_of_ble_eq_true rfl) (Nat.le_of_ble_eq_true rfl) ?_
            refine V.iret dX11_change_65 (Nat.le_of_ble_eq_true rfl) (Nat.le_of_ble_eq_true rfl) ?_
            exact pr_post ((if_pos (by rw [hz]; omega)).trans (if_pos (by have := hn.2; have := hn.1.symm.trans c57; exact (nI_eq (by omega) (by decide)).mp this))) hp
        · refine V.aload_n (i := 0) dX11_change_45 rfl rfl ?_
          refine V.iconst dX11_change_46 ic_1 ?_
          refine V.cq1D hE dX11_change_47 lk_X11_137 rfl (c_finding hE _ (by decide) ⟨rfl, rfl⟩) (by decide) (by decide) (Nat.le_of_ble_eq_true rfl) (Nat.le_of_ble_eq_true rfl) (Nat.le_of_ble_eq_true rfl) ?_
          refine V.iret dX11_change_50 (Nat.le_of_ble_eq_true rfl) (Nat.le_of_ble_eq_true rfl) ?_
          exact pr_post (if_neg (by rw [hz]; omega)) hp
  · skip
    refine V.aload_n (i := 0) dX11_change_0 rfl rfl ?_
    refine V.iload_n (i := 1) dX11_change_1 rfl rfl ?_
    refine V.cq1D hE dX11_change_2 lk_X11_141 rfl (c_isShip hE _ hI ⟨rfl, rfl⟩) (by decide) (by decide) (Nat.le_of_ble_eq_true rfl) (Nat.le_of_ble_eq_true rfl) (Nat.le_of_ble_eq_true rfl) ?_
    refine V.ifb_eq (tgt := 45) dX11_change_5 rfl (fun c5 => ?_) (fun c5 => ?_)
    · refine V.aload_n (i := 0) dX11_change_45 rfl rfl ?_
      refine V.iconst dX11_change_46 ic_1 ?_
      refine V.cq1D hE dX11_change_47 lk_X11_137 rfl (c_finding hE _ (by decide) ⟨rfl, rfl⟩) (by decide) (by decide) (Nat.le_of_ble_eq_true rfl) (Nat.le_of_ble_eq_true rfl) (Nat.le_of_ble_eq_true rfl) ?_
      refine V.iret dX11_change_50 (Nat.le_of_ble_eq_true rfl) (Nat.le_of_ble_eq_true rfl) ?_
      exact pr_post (if_neg (by omega)) hp
    · refine V.iload_n (i := 2) dX11_change_8 rfl rfl ?_
      refine V.iconst dX11_change_9 ic_0 ?_
      refine V.iconst dX11_change_10 ic_2 ?_
      refine V.cs3D dX11_change_11 lk_X11_124 (c_isInN _ 0 2 (by decide) (by decide) ⟨rfl, rfl⟩) (by decide) (by decide) (Nat.le_of_ble_eq_true rfl) (Nat.le_of_ble_eq_true rfl) (Nat.le_of_ble_eq_true rfl) ?_
      refine V.ifb_eqT (tgt := 45) dX11_change_14 rfl (by simpa using hws) ?_
      refine V.aload_n (i := 0) dX11_change_45 rfl rfl ?_
      refine V.iconst dX11_change_46 ic_1 ?_
      refine V.cq1D hE dX11_change_47 lk_X11_137 rfl (c_finding hE _ (by decide) ⟨rfl, rfl⟩) (by decide) (by decide) (Nat.le_of_ble_eq_true rfl) (Nat.le_of_ble_eq_true rfl) (Nat.le_of_ble_eq_true rfl) ?_
      refine V.iret dX11_change_50 (Nat.le_of_ble_eq_true rfl) (Nat.le_of_ble_eq_true rfl) ?_
      exact pr_post (if_neg (by omega)) hp
set_option maxRecDepth 100000 in
theorem c_named (hE : eF E = true) (nm on : Int32) (hI : Inv G) (hp : post (some (.int (s_named G nm on).1)) (wG σ (s_named G nm on).2)) : MX11_named E 3 0 0 [.ref (eQ E 48), .int nm, .int on] (wG σ G) post := by
  refine MA.of RX11 "named" [some (.ref (eQ E 48)), some (.int nm), some (.int on), none] rfl rfl rfl (catAll rfl) (Nat.le_of_ble_eq_true rfl) rfl (fun X => ?_)
  have hn := hI.shN
  have loop : ((0 ≤ nm.toInt ∧ nm.toInt ≤ 99) ∧ 0 ≤ on.toInt ∧ on.toInt ≤ 9999) → ∀ m k, k + m = nSh G → fstOf (fun i => decide (hadOn G i 0 on = nm)) (nSh G) 0 = fstOf (fun i => decide (hadOn G i 0 on = nm)) m k → V E X RX11 "named" cX11_named 4 (some .int) 3 0 0 (QM E X post 0 0) (wG σ G) 0 0 25 [some (.ref (eQ E 48)), some (.int nm), some (.int on), some (.int (nI k))] [] := by
    intro hg m
    induction m with
    | zero =>
      intro k hk hv
      refine V.iload_n (i := 3) dX11_named_25 rfl rfl ?_
      refine V.aload_n (i := 0) dX11_named_26 rfl rfl ?_
      refine V.mgeti hE dX11_named_27 fl_X11_121 rfl ?_
      refine V.icmp_geT (tgt := 52) dX11_named_30 rfl (lpT hn.1 (by omega) (by omega)) ?_
      refine V.aload_n (i := 0) dX11_named_52 rfl rfl ?_
      refine V.iconst dX11_named_53 ic_2 ?_
      refine V.cq1D hE dX11_named_54 lk_X11_137 rfl (c_finding hE _ (by decide) ⟨rfl, rfl⟩) (by decide) (by decide) (Nat.le_of_ble_eq_true rfl) (Nat.le_of_ble_eq_true rfl) (Nat.le_of_ble_eq_true rfl) ?_
      refine V.iret dX11_named_57 (Nat.le_of_ble_eq_true rfl) (Nat.le_of_ble_eq_true rfl) ?_
      exact pr_post ((if_pos hg).trans (if_neg (by rw [hv]; unfold fstOf; omega))) hp
    | succ m ih =>
      intro k hk hv
      rw [fstOf_s] at hv
      refine V.iload_n (i := 3) dX11_named_25 rfl rfl ?_
      refine V.aload_n (i := 0) dX11_named_26 rfl rfl ?_
      refine V.mgeti hE dX11_named_27 fl_X11_121 rfl ?_
      refine V.icmp_geF (tgt := 52) dX11_named_30 rfl (lpF hn.1 (by omega) (by omega)) ?_
      refine V.aload_n (i := 0) dX11_named_33 rfl rfl ?_
      refine V.iload_n (i := 3) dX11_named_34 rfl rfl ?_
      refine V.iconst dX11_named_35 ic_0 ?_
      refine V.iload_n (i := 2) dX11_named_36 rfl rfl ?_
      refine V.cq3D hE dX11_named_37 lk_X11_155 rfl (c_hadOn hE k 0 on (by omega) (by decide) hI ⟨rfl, rfl⟩) (by decide) (by decide) (Nat.le_of_ble_eq_true rfl) (Nat.le_of_ble_eq_true rfl) (Nat.le_of_ble_eq_true rfl) ?_
      refine V.iload_n (i := 1) dX11_named_40 rfl rfl ?_
      refine V.icmp_ne (tgt := 46) dX11_named_41 rfl (fun c41 => ?_) (fun c41 => ?_)
      · refine V.iinc3 (by decide) dX11_named_46 (inc1 _) ?_
        refine V.goto (tgt := 25) dX11_named_49 rfl ?_
        exact ih (k + 1) (by omega) (hv.trans (if_neg (by simpa using c41)))
      · refine V.iload_n (i := 3) dX11_named_44 rfl rfl ?_
        refine V.iret dX11_named_45 (Nat.le_of_ble_eq_true rfl) (Nat.le_of_ble_eq_true rfl) ?_
        exact pr_post ((if_pos hg).trans (by rw [hv.trans (if_pos (by simpa using c41)), if_pos (by omega)])) hp
  refine V.iload_n (i := 1) dX11_named_0 rfl rfl ?_
  refine V.iconst dX11_named_1 ic_0 ?_
  refine V.bipush dX11_named_2 bc_99 ?_
  refine V.cs3D dX11_named_4 lk_X11_124 (c_isInN _ 0 99 (by decide) (by decide) ⟨rfl, rfl⟩) (by decide) (by decide) (Nat.le_of_ble_eq_true rfl) (Nat.le_of_ble_eq_true rfl) (Nat.le_of_ble_eq_true rfl) ?_
  refine V.ifb_eq (tgt := 17) dX11_named_7 rfl (fun c7 => ?_) (fun c7 => ?_)
  · refine V.aload_n (i := 0) dX11_named_17 rfl rfl ?_
    refine V.iconst dX11_named_18 ic_1 ?_
    refine V.cq1D hE dX11_named_19 lk_X11_137 rfl (c_finding hE _ (by decide) ⟨rfl, rfl⟩) (by decide) (by decide) (Nat.le_of_ble_eq_true rfl) (Nat.le_of_ble_eq_true rfl) (Nat.le_of_ble_eq_true rfl) ?_
    refine V.iret dX11_named_22 (Nat.le_of_ble_eq_true rfl) (Nat.le_of_ble_eq_true rfl) ?_
    exact pr_post (if_neg (by omega)) hp
  · refine V.iload_n (i := 2) dX11_named_10 rfl rfl ?_
    refine V.cs1D dX11_named_11 lk_X11_159 (c_isDay _ ⟨rfl, rfl⟩) (by decide) (by decide) (Nat.le_of_ble_eq_true rfl) (Nat.le_of_ble_eq_true rfl) (Nat.le_of_ble_eq_true rfl) ?_
    refine V.ifb_ne (tgt := 23) dX11_named_14 rfl (fun c14 => ?_) (fun c14 => ?_)
    · refine V.iconst dX11_named_23 ic_0 ?_
      refine V.istore_n3 (by decide) dX11_named_24 ?_
      exact loop (by omega) _ 0 (by omega) rfl
    · refine V.aload_n (i := 0) dX11_named_17 rfl rfl ?_
      refine V.iconst dX11_named_18 ic_1 ?_
      refine V.cq1D hE dX11_named_19 lk_X11_137 rfl (c_finding hE _ (by decide) ⟨rfl, rfl⟩) (by decide) (by decide) (Nat.le_of_ble_eq_true rfl) (Nat.le_of_ble_eq_true rfl) (Nat.le_of_ble_eq_true rfl) ?_
      refine V.iret dX11_named_22 (Nat.le_of_ble_eq_true rfl) (Nat.le_of_ble_eq_true rfl) ?_
      exact pr_post (if_neg (by omega)) hp
set_option maxRecDepth 100000 in
theorem c_one (hE : eF E = true) (a b : Int32) (hI : Inv G) (hp : post (some (.int (s_one G a b).1)) (wG σ (s_one G a b).2)) : MX11_one E 2 0 0 [.ref (eQ E 48), .int a, .int b] (wG σ G) post := by
  refine MA.of RX11 "one" [some (.ref (eQ E 48)), some (.int a), some (.int b)] rfl rfl rfl (catAll rfl) (Nat.le_of_ble_eq_true rfl) rfl (fun X => ?_)
  have hn := hI.wdN
  refine V.iload_n (i := 1) dX11_one_0 rfl rfl ?_
  refine V.iconst dX11_one_1 ic_0 ?_
  refine V.bipush dX11_one_2 bc_9 ?_
  refine V.cs3D dX11_one_4 lk_X11_124 (c_isInN _ 0 9 (by decide) (by decide) ⟨rfl, rfl⟩) (by decide) (by decide) (Nat.le_of_ble_eq_true rfl) (Nat.le_of_ble_eq_true rfl) (Nat.le_of_ble_eq_true rfl) ?_
  refine V.ifb_eq (tgt := 25) dX11_one_7 rfl (fun c7 => ?_) (fun c7 => ?_)
  · refine V.aload_n (i := 0) dX11_one_25 rfl rfl ?_
    refine V.iconst dX11_one_26 ic_1 ?_
    refine V.cq1D hE dX11_one_27 lk_X11_137 rfl (c_finding hE _ (by decide) ⟨rfl, rfl⟩) (by decide) (by decide) (Nat.le_of_ble_eq_true rfl) (Nat.le_of_ble_eq_true rfl) (Nat.le_of_ble_eq_true rfl) ?_
    refine V.iret dX11_one_30 (Nat.le_of_ble_eq_true rfl) (Nat.le_of_ble_eq_true rfl) ?_
    exact pr_post (if_neg (by first | omega | exact fun z => z.2.2 c22)) hp
  · refine V.iload_n (i := 2) dX11_one_10 rfl rfl ?_
    refine V.iconst dX11_one_11 ic_0 ?_
    refine V.bipush dX11_one_12 bc_9 ?_
    refine V.cs3D dX11_one_14 lk_X11_124 (c_isInN _ 0 9 (by decide) (by decide) ⟨rfl, rfl⟩) (by decide) (by decide) (Nat.le_of_ble_eq_true rfl) (Nat.le_of_ble_eq_true rfl) (Nat.le_of_ble_eq_true rfl) ?_
    refine V.ifb_eq (tgt := 25) dX11_one_17 rfl (fun c17 => ?_) (fun c17 => ?_)
    · refine V.aload_n (i := 0) dX11_one_25 rfl rfl ?_
      refine V.iconst dX11_one_26 ic_1 ?_
      refine V.cq1D hE dX11_one_27 lk_X11_137 rfl (c_finding hE _ (by decide) ⟨rfl, rfl⟩) (by decide) (by decide) (Nat.le_of_ble_eq_true rfl) (Nat.le_of_ble_eq_true rfl) (Nat.le_of_ble_eq_true rfl) ?_
      refine V.iret dX11_one_30 (Nat.le_of_ble_eq_true rfl) (Nat.le_of_ble_eq_true rfl) ?_
      exact pr_post (if_neg (by first | omega | exact fun z => z.2.2 c22)) hp
    · refine V.iload_n (i := 1) dX11_one_20 rfl rfl ?_
      refine V.iload_n (i := 2) dX11_one_21 rfl rfl ?_
      refine V.icmp_ne (tgt := 31) dX11_one_22 rfl (fun c22 => ?_) (fun c22 => ?_)
      · refine V.aload_n (i := 0) dX11_one_31 rfl rfl ?_
        refine V.mgeti hE dX11_one_32 fl_X11_162 rfl ?_
        refine V.bipush dX11_one_35 bc_12 ?_
        refine V.icmp_ne (tgt := 46) dX11_one_37 rfl (fun c37 => ?_) (fun c37 => ?_)
        · have hne : nWd G ≠ 12 := fun e => c37 (by rw [hn.1, e])
          refine V.aload_n (i := 0) dX11_one_46 rfl rfl ?_
          refine V.mgeta hE dX11_one_47 fl_X11_31 rfl ?_
          refine V.aload_n (i := 0) dX11_one_50 rfl rfl ?_
          refine V.mgeti hE dX11_one_51 fl_X11_162 rfl ?_
          refine V.iload_n (i := 1) dX11_one_54 rfl rfl ?_
          refine V.miast hE dX11_one_55 rfl rfl hn.1 (show _ < 12 from (by omega)) ?_
          refine V.aload_n (i := 0) dX11_one_56 rfl rfl ?_
          refine V.mgeta hE dX11_one_57 fl_X11_34 rfl ?_
          refine V.aload_n (i := 0) dX11_one_60 rfl rfl ?_
          refine V.mgeti hE dX11_one_61 fl_X11_162 rfl ?_
          refine V.iload_n (i := 2) dX11_one_64 rfl rfl ?_
          refine V.miast hE dX11_one_65 rfl rfl hn.1 (show _ < 12 from (by omega)) ?_
          refine V.aload_n (i := 0) dX11_one_66 rfl rfl ?_
          refine V.dup dX11_one_67 rfl ?_
          refine V.mgeti hE dX11_one_68 fl_X11_162 rfl ?_
          refine V.iconst dX11_one_71 ic_1 ?_
          refine V.iadd dX11_one_72 ?_
          refine V.as (nI (nWd G + 1)) (show G 10 0 + nI 1 = _ by rw [hn.1, nI_add]) ?_
          refine V.mputi hE dX11_one_73 fl_X11_162 rfl rfl rfl ?_
          refine V.aload_n (i := 0) dX11_one_76 rfl rfl ?_
          refine V.mgeti hE dX11_one_77 fl_X11_162 rfl ?_
          refine V.iret dX11_one_80 (Nat.le_of_ble_eq_true rfl) (Nat.le_of_ble_eq_true rfl) ?_
          exact pr_post ((if_pos ⟨by omega, by omega, c22⟩).trans (if_neg hne)) hp
        · refine V.aload_n (i := 0) dX11_one_40 rfl rfl ?_
          refine V.iconst dX11_one_41 ic_4 ?_
          refine V.cq1D hE dX11_one_42 lk_X11_137 rfl (c_finding hE _ (by decide) ⟨rfl, rfl⟩) (by decide) (by decide) (Nat.le_of_ble_eq_true rfl) (Nat.le_of_ble_eq_true rfl) (Nat.le_of_ble_eq_true rfl) ?_
          refine V.iret dX11_one_45 (Nat.le_of_ble_eq_true rfl) (Nat.le_of_ble_eq_true rfl) ?_
          exact pr_post ((if_pos ⟨by omega, by omega, c22⟩).trans (if_pos (by have := hn.1.symm.trans c37; exact (nI_eq (by omega) (by decide)).mp this))) hp
      · refine V.aload_n (i := 0) dX11_one_25 rfl rfl ?_
        refine V.iconst dX11_one_26 ic_1 ?_
        refine V.cq1D hE dX11_one_27 lk_X11_137 rfl (c_finding hE _ (by decide) ⟨rfl, rfl⟩) (by decide) (by decide) (Nat.le_of_ble_eq_true rfl) (Nat.le_of_ble_eq_true rfl) (Nat.le_of_ble_eq_true rfl) ?_
        refine V.iret dX11_one_30 (Nat.le_of_ble_eq_true rfl) (Nat.le_of_ble_eq_true rfl) ?_
        exact pr_post (if_neg (by first | omega | exact fun z => z.2.2 c22)) hp
set_option maxRecDepth 100000 in
theorem c_day (hE : eF E = true) (on : Int32) (hI : Inv G) (hp : post (some (.int (s_day G on).1)) (wG σ (s_day G on).2)) : MX11_day E 3 0 0 [.ref (eQ E 48), .int on] (wG σ G) post := by
  refine MA.of RX11 "day" [some (.ref (eQ E 48)), some (.int on), none] rfl rfl rfl (catAll rfl) (Nat.le_of_ble_eq_true rfl) rfl (fun X => ?_)
  refine V.iload_n (i := 1) dX11_day_0 rfl rfl ?_
  refine V.cs1D dX11_day_1 lk_X11_159 (c_isDay _ ⟨rfl, rfl⟩) (by decide) (by decide) (Nat.le_of_ble_eq_true rfl) (Nat.le_of_ble_eq_true rfl) (Nat.le_of_ble_eq_true rfl) ?_
  refine V.ifb_eq (tgt := 15) dX11_day_4 rfl (fun c4 => ?_) (fun c4 => ?_)
  · refine V.aload_n (i := 0) dX11_day_15 rfl rfl ?_
    refine V.iconst dX11_day_16 ic_1 ?_
    refine V.cq1D hE dX11_day_17 lk_X11_137 rfl (c_finding hE _ (by decide) ⟨rfl, rfl⟩) (by decide) (by decide) (Nat.le_of_ble_eq_true rfl) (Nat.le_of_ble_eq_true rfl) (Nat.le_of_ble_eq_true rfl) ?_
    refine V.iret dX11_day_20 (Nat.le_of_ble_eq_true rfl) (Nat.le_of_ble_eq_true rfl) ?_
    exact pr_post (if_neg (by first | omega | (rw [fa_le] at c12; omega))) hp
  · refine V.iload_n (i := 1) dX11_day_7 rfl rfl ?_
    refine V.aload_n (i := 0) dX11_day_8 rfl rfl ?_
    refine V.mgeti hE dX11_day_9 fl_X11_134 rfl ?_
    refine V.icmp_ge (tgt := 21) dX11_day_12 rfl (fun c12 => ?_) (fun c12 => ?_)
    · refine V.iload_n (i := 1) dX11_day_21 rfl rfl ?_
      refine V.aload_n (i := 0) dX11_day_22 rfl rfl ?_
      refine V.mgeti hE dX11_day_23 fl_X11_134 rfl ?_
      refine V.isub dX11_day_26 ?_
      refine V.istore_n2 (by decide) dX11_day_27 ?_
      refine V.aload_n (i := 0) dX11_day_28 rfl rfl ?_
      refine V.iload_n (i := 1) dX11_day_29 rfl rfl ?_
      refine V.mputi hE dX11_day_30 fl_X11_134 rfl rfl rfl ?_
      refine V.iload_n (i := 2) dX11_day_33 rfl rfl ?_
      refine V.iret dX11_day_34 (Nat.le_of_ble_eq_true rfl) (Nat.le_of_ble_eq_true rfl) ?_
      exact pr_post (if_pos ⟨c4, by rw [fa_le] at c12; exact c12⟩) hp
    · refine V.aload_n (i := 0) dX11_day_15 rfl rfl ?_
      refine V.iconst dX11_day_16 ic_1 ?_
      refine V.cq1D hE dX11_day_17 lk_X11_137 rfl (c_finding hE _ (by decide) ⟨rfl, rfl⟩) (by decide) (by decide) (Nat.le_of_ble_eq_true rfl) (Nat.le_of_ble_eq_true rfl) (Nat.le_of_ble_eq_true rfl) ?_
      refine V.iret dX11_day_20 (Nat.le_of_ble_eq_true rfl) (Nat.le_of_ble_eq_true rfl) ?_
      exact pr_post (if_neg (by first | omega | (rw [fa_le] at c12; omega))) hp
set_option maxRecDepth 100000 in
theorem c_openCall (hE : eF E = true) (s : Int32) (hI : Inv G) (hp : post (some (.int (optI (openOf G s)))) (wG σ G)) : MX11_openCall E 1 0 0 [.ref (eQ E 48), .int s] (wG σ G) post := by
  refine MA.of RX11 "openCall" [some (.ref (eQ E 48)), some (.int s), none, none] rfl rfl rfl (catAll rfl) (Nat.le_of_ble_eq_true rfl) rfl (fun X => ?_)
  have hn := hI.caN
  have loop : ∀ m k, k + m = nCa G → ∀ v, v = optI (openK G s k) → V E X RX11 "openCall" cX11_openCall 4 (some .int) 1 0 0 (QM E X post 0 0) (wG σ G) 0 0 4 [some (.ref (eQ E 48)), some (.int s), some (.int v), some (.int (nI k))] [] := by
    intro m
    induction m with
    | zero =>
      intro k hk v hv
      refine V.iload_n (i := 3) dX11_openCall_4 rfl rfl ?_
      refine V.aload_n (i := 0) dX11_openCall_5 rfl rfl ?_
      refine V.mgeti hE dX11_openCall_6 fl_X11_128 rfl ?_
      refine V.icmp_geT (tgt := 43) dX11_openCall_9 rfl (lpT hn.1 (by omega) (by omega)) ?_
      refine V.iload_n (i := 2) dX11_openCall_43 rfl rfl ?_
      refine V.iret dX11_openCall_44 (Nat.le_of_ble_eq_true rfl) (Nat.le_of_ble_eq_true rfl) ?_
      exact i_post (by rw [hv, openOf, show k = nCa G by omega]) hp
    | succ m ih =>
      intro k hk v hv
      refine V.iload_n (i := 3) dX11_openCall_4 rfl rfl ?_
      refine V.aload_n (i := 0) dX11_openCall_5 rfl rfl ?_
      refine V.mgeti hE dX11_openCall_6 fl_X11_128 rfl ?_
      refine V.icmp_geF (tgt := 43) dX11_openCall_9 rfl (lpF hn.1 (by omega) (by omega)) ?_
      refine V.aload_n (i := 0) dX11_openCall_12 rfl rfl ?_
      refine V.mgeta hE dX11_openCall_13 fl_X11_37 rfl ?_
      refine V.iload_n (i := 3) dX11_openCall_16 rfl rfl ?_
      refine V.miald hE dX11_openCall_17 rfl rfl rfl (show _ < 50 from (by omega)) ?_
      refine V.iload_n (i := 1) dX11_openCall_18 rfl rfl ?_
      refine V.icmp_ne (tgt := 35) dX11_openCall_19 rfl (fun c19 => ?_) (fun c19 => ?_)
      · refine V.iload_n (i := 2) dX11_openCall_35 rfl rfl ?_
        refine V.istore_n2 (by decide) dX11_openCall_36 ?_
        refine V.iinc3 (by decide) dX11_openCall_37 (inc1 _) ?_
        refine V.goto (tgt := 4) dX11_openCall_40 rfl ?_
        first | exact ih (k + 1) (by omega) _ (by rw [openK, if_pos ⟨c19, by rw [fa_le] at c28; simpa using c28⟩]; rfl) | exact ih (k + 1) (by omega) _ (by rw [hv, openK, if_neg (fun z => c19 z.1)]) | exact ih (k + 1) (by omega) _ (by rw [hv, openK, if_neg (fun z => by rw [fa_le] at c28; have := z.2; simp at c28; omega)])
      · refine V.aload_n (i := 0) dX11_openCall_22 rfl rfl ?_
        refine V.mgeta hE dX11_openCall_23 fl_X11_46 rfl ?_
        refine V.iload_n (i := 3) dX11_openCall_26 rfl rfl ?_
        refine V.miald hE dX11_openCall_27 rfl rfl rfl (show _ < 50 from (by omega)) ?_
        refine V.if_ge (tgt := 35) dX11_openCall_28 rfl (fun c28 => ?_) (fun c28 => ?_)
        · refine V.iload_n (i := 2) dX11_openCall_35 rfl rfl ?_
          refine V.istore_n2 (by decide) dX11_openCall_36 ?_
          refine V.iinc3 (by decide) dX11_openCall_37 (inc1 _) ?_
          refine V.goto (tgt := 4) dX11_openCall_40 rfl ?_
          first | exact ih (k + 1) (by omega) _ (by rw [openK, if_pos ⟨c19, by rw [fa_le] at c28; simpa using c28⟩]; rfl) | exact ih (k + 1) (by omega) _ (by rw [hv, openK, if_neg (fun z => c19 z.1)]) | exact ih (k + 1) (by omega) _ (by rw [hv, openK, if_neg (fun z => by rw [fa_le] at c28; have := z.2; simp at c28; omega)])
        · refine V.iload_n (i := 3) dX11_openCall_31 rfl rfl ?_
          refine V.goto (tgt := 36) dX11_openCall_32 rfl ?_
          refine V.istore_n2 (by decide) dX11_openCall_36 ?_
          refine V.iinc3 (by decide) dX11_openCall_37 (inc1 _) ?_
          refine V.goto (tgt := 4) dX11_openCall_40 rfl ?_
          first | exact ih (k + 1) (by omega) _ (by rw [openK, if_pos ⟨c19, by rw [fa_le] at c28; simpa using c28⟩]; rfl) | exact ih (k + 1) (by omega) _ (by rw [hv, openK, if_neg (fun z => c19 z.1)]) | exact ih (k + 1) (by omega) _ (by rw [hv, openK, if_neg (fun z => by rw [fa_le] at c28; have := z.2; simp at c28; omega)])
  refine V.iconst dX11_openCall_0 ic_m1 ?_
  refine V.istore_n2 (by decide) dX11_openCall_1 ?_
  refine V.iconst dX11_openCall_2 ic_0 ?_
  refine V.istore_n3 (by decide) dX11_openCall_3 ?_
  exact loop (nCa G) 0 (by omega) _ rfl
end REF2

