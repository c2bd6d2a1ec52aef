/-! ===== the model: rest, bans ===== -/
theorem shf_at (G : GS) (s : Nat) : ∀ d j, d ≤ j → shf G s d 34 (7 * s + j) = G 34 (7 * s + j)
  | 0, j, _ => rfl
  | d + 1, j, h => by
    unfold shf
    rw [u2_ne (by omega)]
    exact shf_at G s d j (by omega)
theorem shf_row (G : GS) (s : Nat) : ∀ d r, r ≠ 34 → shf G s d r = G r
  | 0, r, _ => rfl
  | d + 1, r, h => by
    unfold shf
    rw [u2_row h]
    exact shf_row G s d r h
theorem shf_of (G : GS) (s : Nat) (j : Nat) (h : j < 7 * s ∨ 7 * s + 6 ≤ j) : ∀ d, d ≤ 6 → shf G s d 34 j = G 34 j
  | 0, _ => rfl
  | d + 1, hd => by
    unfold shf
    rw [u2_ne (by omega)]
    exact shf_of G s j h d (by omega)
theorem shf_in (G : GS) (s : Nat) : ∀ d j, j < d → shf G s d 34 (7 * s + j) = G 34 (7 * s + j + 1)
  | 0, j, h => by omega
  | d + 1, j, h => by
    unfold shf
    by_cases e : j = d
    · subst e
      rw [u2_eq]
    · rw [u2_ne (by omega)]
      exact shf_in G s d j (by omega)
section REF10
variable {E : VE} {σ : Sg} {G : GS} {post : Option Value → Sg → Prop}
set_option maxRecDepth 100000 in
theorem c_isRest (hE : eF E = true) (s h : Nat) (hs : s < 16) (hh : h < 168) (hr : ∀ i, i < 112 → G 34 i = nI (gN G 34 i) ∧ gN G 34 i < 16777216) (hp : post (some (.int (b2 (rstB G s h = true)))) (wG σ G)) : MX11_isRest E 1 0 0 [.ref (eQ E 48), .int (nI s), .int (nI h)] (wG σ G) post := by
  refine MA.of RX11 "isRest" [some (.ref (eQ E 48)), some (.int (nI s)), some (.int (nI h))] rfl rfl rfl (catAll rfl) (Nat.le_of_ble_eq_true rfl) rfl (fun X => ?_)
  have hb := hr (7 * s + h / 24) (by omega)
  refine V.aload_n (i := 0) dX11_isRest_0 rfl rfl ?_
  refine V.mgeta hE dX11_isRest_1 fl_X11_86 rfl ?_
  refine V.bipush dX11_isRest_4 bc_7 ?_
  refine V.iload_n (i := 1) dX11_isRest_6 rfl rfl ?_
  refine V.imul dX11_isRest_7 ?_
  refine V.iload_n (i := 2) dX11_isRest_8 rfl rfl ?_
  refine V.bipush dX11_isRest_9 bc_24 ?_
  refine V.idiv dX11_isRest_11 (by decide) ?_
  refine V.as _ (pk_div (by omega) (by decide) (by decide)) ?_
  refine V.iadd dX11_isRest_12 ?_
  refine V.as (nI (7 * s + h / 24)) (by rw [pk_mul, nI_add]) ?_
  refine V.miald hE dX11_isRest_13 rfl rfl rfl (show _ < 112 from (by omega)) ?_
  refine V.iload_n (i := 2) dX11_isRest_14 rfl rfl ?_
  refine V.bipush dX11_isRest_15 bc_24 ?_
  refine V.irem dX11_isRest_17 (by decide) ?_
  refine V.as _ (pk_rem (by omega) (by decide) (by decide)) ?_
  refine V.ishr dX11_isRest_18 ?_
  refine V.iconst dX11_isRest_19 ic_1 ?_
  refine V.iand dX11_isRest_20 ?_
  refine V.as (nI (if rstB G s h then 1 else 0)) (by rw [hb.1]; exact testBit_and1 (by omega) (by omega)) ?_
  refine V.iconst dX11_isRest_21 ic_1 ?_
  refine V.icmp_ne (tgt := 29) dX11_isRest_22 rfl (fun c22 => ?_) (fun c22 => ?_)
  · rw [nI_eq (by split <;> decide) (by decide)] at c22
    refine V.iconst dX11_isRest_29 ic_0 ?_
    refine V.zret dX11_isRest_30 (by decide) (Nat.le_of_ble_eq_true rfl) (Nat.le_of_ble_eq_true rfl) ?_
    first | exact b2_ret1 (Decidable.byContradiction (fun q => by simp [q] at c22)) hp | exact b2_ret0 (by intro q; simp [q] at c22) hp
  · rw [nI_eq (by split <;> decide) (by decide)] at c22
    refine V.iconst dX11_isRest_25 ic_1 ?_
    refine V.goto (tgt := 30) dX11_isRest_26 rfl ?_
    refine V.zret dX11_isRest_30 (by decide) (Nat.le_of_ble_eq_true rfl) (Nat.le_of_ble_eq_true rfl) ?_
    first | exact b2_ret1 (Decidable.byContradiction (fun q => by simp [q] at c22)) hp | exact b2_ret0 (by intro q; simp [q] at c22) hp
set_option maxRecDepth 100000 in
theorem c_restIn (hE : eF E = true) (s a n : Nat) (hs : s < 16) (hh : a + n ≤ 168) (hr : ∀ i, i < 112 → G 34 i = nI (gN G 34 i) ∧ gN G 34 i < 16777216) (hp : post (some (.int (nI (restCnt G s a n)))) (wG σ G)) : MX11_restIn E 2 0 0 [.ref (eQ E 48), .int (nI s), .int (nI a), .int (nI n)] (wG σ G) post := by
  refine MA.of RX11 "restIn" [some (.ref (eQ E 48)), some (.int (nI s)), some (.int (nI a)), some (.int (nI n)), none, none] rfl rfl rfl (catAll rfl) (Nat.le_of_ble_eq_true rfl) rfl (fun X => ?_)
  have loop : ∀ m j, j + m = n → ∀ v, v = nI (fb_ct (fun j => rstB G s (a + j)) j) → V E X RX11 "restIn" cX11_restIn 6 (some .int) 2 0 0 (QM E X post 0 0) (wG σ G) 0 0 6 [some (.ref (eQ E 48)), some (.int (nI s)), some (.int (nI a)), some (.int (nI n)), some (.int v), some (.int (nI (a + j)))] [] := by
    intro m
    induction m with
    | zero =>
      intro j hj v hv
      refine V.iload (i := 5) dX11_restIn_6 rfl ?_
      refine V.iload_n (i := 2) dX11_restIn_8 rfl rfl ?_
      refine V.iload_n (i := 3) dX11_restIn_9 rfl rfl ?_
      refine V.iadd dX11_restIn_10 ?_
      refine V.icmp_geT (tgt := 40) dX11_restIn_11 rfl (by rw [nI_add]; exact nI_le (by omega) (by omega)) ?_
      refine V.iload (i := 4) dX11_restIn_40 rfl ?_
      refine V.iret dX11_restIn_42 (Nat.le_of_ble_eq_true rfl) (Nat.le_of_ble_eq_true rfl) ?_
      exact i_post (by rw [hv, restCnt, show j = n by omega]) hp
    | succ m ih =>
      intro j hj v hv
      refine V.iload (i := 5) dX11_restIn_6 rfl ?_
      refine V.iload_n (i := 2) dX11_restIn_8 rfl rfl ?_
      refine V.iload_n (i := 3) dX11_restIn_9 rfl rfl ?_
      refine V.iadd dX11_restIn_10 ?_
      refine V.icmp_geF (tgt := 40) dX11_restIn_11 rfl (by rw [nI_add]; exact nI_ge (by omega) (by omega)) ?_
      refine V.iload (i := 4) dX11_restIn_14 rfl ?_
      refine V.aload_n (i := 0) dX11_restIn_16 rfl rfl ?_
      refine V.iload_n (i := 1) dX11_restIn_17 rfl rfl ?_
      refine V.iload (i := 5) dX11_restIn_18 rfl ?_
      refine V.cq2D hE dX11_restIn_20 lk_X11_251 rfl (c_isRest hE s (a + j) hs (by omega) hr ⟨rfl, rfl⟩) (by decide) (by decide) (Nat.le_of_ble_eq_true rfl) (Nat.le_of_ble_eq_true rfl) (Nat.le_of_ble_eq_true rfl) ?_
      refine V.ifb_eq (tgt := 30) dX11_restIn_23 rfl (fun c23 => ?_) (fun c23 => ?_)
      · refine V.iconst dX11_restIn_30 ic_0 ?_
        refine V.iadd dX11_restIn_31 ?_
        refine V.istore4 (by decide) dX11_restIn_32 ?_
        refine V.iinc5 (by decide) dX11_restIn_34 (inc1 _) ?_
        refine V.goto (tgt := 6) dX11_restIn_37 rfl ?_
        exact ih (j + 1) (by omega) _ (by rw [hv, nI_add, fb_ct_succ]; simp_all)
      · refine V.iconst dX11_restIn_26 ic_1 ?_
        refine V.goto (tgt := 31) dX11_restIn_27 rfl ?_
        refine V.iadd dX11_restIn_31 ?_
        refine V.istore4 (by decide) dX11_restIn_32 ?_
        refine V.iinc5 (by decide) dX11_restIn_34 (inc1 _) ?_
        refine V.goto (tgt := 6) dX11_restIn_37 rfl ?_
        exact ih (j + 1) (by omega) _ (by rw [hv, nI_add, fb_ct_succ]; simp_all)
  refine V.iconst dX11_restIn_0 ic_0 ?_
  refine V.istore4 (by decide) dX11_restIn_1 ?_
  refine V.iload_n (i := 2) dX11_restIn_3 rfl rfl ?_
  refine V.istore5 (by decide) dX11_restIn_4 ?_
  exact loop n 0 (by omega) _ rfl
set_option maxRecDepth 100000 in
theorem c_rest (hE : eF E = true) (s bits : Int32) (hI : Inv G) (hp : post (some (.int (s_rest G s bits).1)) (wG σ (s_rest G s bits).2)) : MX11_rest E 3 0 0 [.ref (eQ E 48), .int s, .int bits] (wG σ G) post := by
  refine MA.of RX11 "rest" [some (.ref (eQ E 48)), some (.int s), some (.int bits), none] rfl rfl rfl (catAll rfl) (Nat.le_of_ble_eq_true rfl) rfl (fun X => ?_)
  have h16 := hI.shN.2
  have loop : ∀ i, i < nSh G → (0 ≤ bits.toInt ∧ bits.toInt ≤ 16777215) → post (some (.int (nI (restCnt (restG G i bits) i 0 168)))) (wG σ (restG G i bits)) → ∀ m d, d + m = 6 → V E X RX11 "rest" cX11_rest 4 (some .int) 3 0 0 (QM E X post 0 0) (wG σ (shf G i d)) 0 0 26 [some (.ref (eQ E 48)), some (.int (nI i)), some (.int bits), some (.int (nI d))] [] := by
    intro i hi hb hp m
    induction m with
    | zero =>
      intro d hd
      rw [show d = 6 by omega]
      have hr : ∀ j, j < 112 → restG G i bits 34 j = nI (gN (restG G i bits) 34 j) ∧ gN (restG G i bits) 34 j < 16777216 := by
        intro j hj
        obtain ⟨n, -, hn, e⟩ := tiN (a := 0) (b := 16777215) hb.1 hb.2
        unfold gN restG
        by_cases q : j = 7 * i + 6
        · subst q
          rw [u2_eq, e, nI_clamp (by omega)]
          exact ⟨rfl, by omega⟩
        · rw [u2_ne q]
          by_cases q2 : j < 7 * i ∨ 7 * i + 6 ≤ j
          · rw [shf_of G i j q2 6 (by omega)]
            exact hI.rst j hj
          · obtain ⟨d, rfl⟩ : ∃ d, j = 7 * i + d := ⟨j - 7 * i, by omega⟩
            rw [shf_in G i 6 d (by omega)]
            exact hI.rst _ (by omega)
      refine V.iload_n (i := 3) dX11_rest_26 rfl rfl ?_
      refine V.bipush dX11_rest_27 bc_6 ?_
      refine V.icmp_geT (tgt := 62) dX11_rest_29 rfl (nI_le (by omega) (by omega)) ?_
      refine V.aload_n (i := 0) dX11_rest_62 rfl rfl ?_
      refine V.mgeta hE dX11_rest_63 fl_X11_86 rfl ?_
      refine V.bipush dX11_rest_66 bc_7 ?_
      refine V.iload_n (i := 1) dX11_rest_68 rfl rfl ?_
      refine V.imul dX11_rest_69 ?_
      refine V.bipush dX11_rest_70 bc_6 ?_
      refine V.iadd dX11_rest_72 ?_
      refine V.as (nI (7 * i + 6)) (by rw [pk_mul, nI_add]) ?_
      refine V.iload_n (i := 2) dX11_rest_73 rfl rfl ?_
      refine V.miast hE dX11_rest_74 rfl rfl rfl (show _ < 112 from (by omega)) ?_
      refine V.aload_n (i := 0) dX11_rest_75 rfl rfl ?_
      refine V.iload_n (i := 1) dX11_rest_76 rfl rfl ?_
      refine V.iconst dX11_rest_77 ic_0 ?_
      refine V.sipush dX11_rest_78 sc_168 ?_
      refine V.cq3D hE dX11_rest_81 lk_X11_255 rfl (c_restIn hE i 0 168 (by omega) (by decide) hr ⟨rfl, rfl⟩) (by decide) (by decide) (Nat.le_of_ble_eq_true rfl) (Nat.le_of_ble_eq_true rfl) (Nat.le_of_ble_eq_true rfl) ?_
      refine V.iret dX11_rest_84 (Nat.le_of_ble_eq_true rfl) (Nat.le_of_ble_eq_true rfl) ?_
      exact hp
    | succ m ih =>
      intro d hd
      refine V.iload_n (i := 3) dX11_rest_26 rfl rfl ?_
      refine V.bipush dX11_rest_27 bc_6 ?_
      refine V.icmp_geF (tgt := 62) dX11_rest_29 rfl (nI_ge (by omega) (by omega)) ?_
      refine V.aload_n (i := 0) dX11_rest_32 rfl rfl ?_
      refine V.mgeta hE dX11_rest_33 fl_X11_86 rfl ?_
      refine V.bipush dX11_rest_36 bc_7 ?_
      refine V.iload_n (i := 1) dX11_rest_38 rfl rfl ?_
      refine V.imul dX11_rest_39 ?_
      refine V.iload_n (i := 3) dX11_rest_40 rfl rfl ?_
      refine V.iadd dX11_rest_41 ?_
      refine V.as (nI (7 * i + d)) (by rw [pk_mul, nI_add]) ?_
      refine V.aload_n (i := 0) dX11_rest_42 rfl rfl ?_
      refine V.mgeta hE dX11_rest_43 fl_X11_86 rfl ?_
      refine V.bipush dX11_rest_46 bc_7 ?_
      refine V.iload_n (i := 1) dX11_rest_48 rfl rfl ?_
      refine V.imul dX11_rest_49 ?_
      refine V.iload_n (i := 3) dX11_rest_50 rfl rfl ?_
      refine V.iadd dX11_rest_51 ?_
      refine V.iconst dX11_rest_52 ic_1 ?_
      refine V.iadd dX11_rest_53 ?_
      refine V.as (nI (7 * i + d + 1)) (by rw [pk_mul, nI_add, nI_add]) ?_
      refine V.miald hE dX11_rest_54 rfl rfl rfl (show _ < 112 from (by omega)) ?_
      refine V.as _ (shf_at G i d (d + 1) (by omega)) ?_
      refine V.miast hE dX11_rest_55 rfl rfl rfl (show _ < 112 from (by omega)) ?_
      refine V.iinc3 (by decide) dX11_rest_56 (inc1 _) ?_
      refine V.goto (tgt := 26) dX11_rest_59 rfl ?_
      exact ih (d + 1) (by omega)
  refine V.aload_n (i := 0) dX11_rest_0 rfl rfl ?_
  refine V.iload_n (i := 1) dX11_rest_1 rfl rfl ?_
  refine V.cq1D hE dX11_rest_2 lk_X11_141 rfl (c_isShip hE _ hI ⟨rfl, rfl⟩) (by decide) (by decide) (Nat.le_of_ble_eq_true rfl) (Nat.le_of_ble_eq_true rfl) (Nat.le_of_ble_eq_true rfl) ?_
  refine V.ifb_eq (tgt := 18) dX11_rest_5 rfl (fun c5 => ?_) (fun c5 => ?_)
  · refine V.aload_n (i := 0) dX11_rest_18 rfl rfl ?_
    refine V.iconst dX11_rest_19 ic_1 ?_
    refine V.cq1D hE dX11_rest_20 lk_X11_137 rfl (c_finding hE _ (by decide) ⟨rfl, rfl⟩) (by decide) (by decide) (Nat.le_of_ble_eq_true rfl) (Nat.le_of_ble_eq_true rfl) (Nat.le_of_ble_eq_true rfl) ?_
    refine V.iret dX11_rest_23 (Nat.le_of_ble_eq_true rfl) (Nat.le_of_ble_eq_true rfl) ?_
    exact pr_post (if_neg (by omega)) hp
  · refine V.iload_n (i := 2) dX11_rest_8 rfl rfl ?_
    refine V.iconst dX11_rest_9 ic_0 ?_
    refine V.ldc dX11_rest_10 wv_X11_254 ?_
    refine V.cs3D dX11_rest_12 lk_X11_124 (c_isInN _ 0 16777215 (by decide) (by decide) ⟨rfl, rfl⟩) (by decide) (by decide) (Nat.le_of_ble_eq_true rfl) (Nat.le_of_ble_eq_true rfl) (Nat.le_of_ble_eq_true rfl) ?_
    refine V.ifb_ne (tgt := 24) dX11_rest_15 rfl (fun c15 => ?_) (fun c15 => ?_)
    · obtain ⟨i, hi, rfl⟩ := idxOf c5
      refine V.iconst dX11_rest_24 ic_0 ?_
      refine V.istore_n3 (by decide) dX11_rest_25 ?_
      exact loop i hi (by omega) (pr_post ((if_pos (by omega)).trans (by rw [tn_nI (by omega)])) hp) 6 0 rfl
    · refine V.aload_n (i := 0) dX11_rest_18 rfl rfl ?_
      refine V.iconst dX11_rest_19 ic_1 ?_
      refine V.cq1D hE dX11_rest_20 lk_X11_137 rfl (c_finding hE _ (by decide) ⟨rfl, rfl⟩) (by decide) (by decide) (Nat.le_of_ble_eq_true rfl) (Nat.le_of_ble_eq_true rfl) (Nat.le_of_ble_eq_true rfl) ?_
      refine V.iret dX11_rest_23 (Nat.le_of_ble_eq_true rfl) (Nat.le_of_ble_eq_true rfl) ?_
      exact pr_post (if_neg (by omega)) hp
set_option maxRecDepth 100000 in
theorem c_tired (hE : eF E = true) (s w : Int32) (hI : Inv G) (hp : post (some (.int (s_tired G s w).1)) (wG σ (s_tired G s w).2)) : MX11_tired E 3 0 0 [.ref (eQ E 48), .int s, .int w] (wG σ G) post := by
  refine MA.of RX11 "tired" [some (.ref (eQ E 48)), some (.int s), some (.int w), none] rfl rfl rfl (catAll rfl) (Nat.le_of_ble_eq_true rfl) rfl (fun X => ?_)
  have h16 := hI.shN.2
  have loop : ∀ i, i < nSh G → (∀ x, s_tired G (nI i) (nI 0) = x → post (some (.int x.1)) (wG σ x.2)) → ∀ F, F = fstOf (wrg G i) 145 23 → ∀ m h, h + m = 168 → 23 ≤ h → F = fstOf (wrg G i) m h → V E X RX11 "tired" cX11_tired 4 (some .int) 3 0 0 (QM E X post 0 0) (wG σ G) 0 0 61 [some (.ref (eQ E 48)), some (.int (nI i)), some (.int (nI 0)), some (.int (nI h))] [] := by
    intro i hi hp F hF m
    have hz : s_tired G (nI i) (nI 0) = (if fstOf (wrg G i) 145 23 < 168 then (nI (fstOf (wrg G i) 145 23), G) else fnd G 2) := by
      unfold s_tired
      rw [show tn (nI i) = i from tn_nI (by omega), show tn (nI 0) = 0 from tn_nI (by decide), toI i (by omega), toI 0 (by decide), if_pos (by omega), if_pos rfl]
    rw [← hF] at hz
    induction m with
    | zero =>
      intro h hh h23 hv
      refine V.iload_n (i := 3) dX11_tired_61 rfl rfl ?_
      refine V.sipush dX11_tired_62 sc_168 ?_
      refine V.icmp_geT (tgt := 92) dX11_tired_65 rfl (nI_le (by omega) (by omega)) ?_
      refine V.aload_n (i := 0) dX11_tired_92 rfl rfl ?_
      refine V.iconst dX11_tired_93 ic_2 ?_
      refine V.cq1D hE dX11_tired_94 lk_X11_137 rfl (c_finding hE _ (by decide) ⟨rfl, rfl⟩) (by decide) (by decide) (Nat.le_of_ble_eq_true rfl) (Nat.le_of_ble_eq_true rfl) (Nat.le_of_ble_eq_true rfl) ?_
      refine V.iret dX11_tired_97 (Nat.le_of_ble_eq_true rfl) (Nat.le_of_ble_eq_true rfl) ?_
      exact hp _ (hz.trans (if_neg (by rw [hv]; unfold fstOf; omega)))
    | succ m ih =>
      intro h hh h23 hv
      rw [fstOf_s] at hv
      have hc : restCnt G i (h - 23) 24 ≤ 24 := fb_ct_le _ _
      refine V.iload_n (i := 3) dX11_tired_61 rfl rfl ?_
      refine V.sipush dX11_tired_62 sc_168 ?_
      refine V.icmp_geF (tgt := 92) dX11_tired_65 rfl (nI_ge (by omega) (by omega)) ?_
      refine V.aload_n (i := 0) dX11_tired_68 rfl rfl ?_
      refine V.iload_n (i := 1) dX11_tired_69 rfl rfl ?_
      refine V.iload_n (i := 3) dX11_tired_70 rfl rfl ?_
      refine V.bipush dX11_tired_71 bc_23 ?_
      refine V.isub dX11_tired_73 ?_
      refine V.as (nI (h - 23)) (pk_sub h23) ?_
      refine V.bipush dX11_tired_74 bc_24 ?_
      refine V.cq3D hE dX11_tired_76 lk_X11_255 rfl (c_restIn hE i (h - 23) 24 (by omega) (by omega) hI.rst ⟨rfl, rfl⟩) (by decide) (by decide) (Nat.le_of_ble_eq_true rfl) (Nat.le_of_ble_eq_true rfl) (Nat.le_of_ble_eq_true rfl) ?_
      refine V.bipush dX11_tired_79 bc_10 ?_
      refine V.icmp_ge (tgt := 86) dX11_tired_81 rfl (fun c81 => ?_) (fun c81 => ?_)
      · rw [nI_leI (by decide) (by omega)] at c81
        refine V.iinc3 (by decide) dX11_tired_86 (inc1 _) ?_
        refine V.goto (tgt := 61) dX11_tired_89 rfl ?_
        exact ih (h + 1) (by omega) (by omega) (hv.trans (if_neg (by unfold wrg; simp; omega)))
      · rw [nI_leI (by decide) (by omega)] at c81
        refine V.iload_n (i := 3) dX11_tired_84 rfl rfl ?_
        refine V.iret dX11_tired_85 (Nat.le_of_ble_eq_true rfl) (Nat.le_of_ble_eq_true rfl) ?_
        exact hp _ (hz.trans (by rw [hv.trans (if_pos (by unfold wrg; simp; omega)), if_pos (by omega)]))
  refine V.aload_n (i := 0) dX11_tired_0 rfl rfl ?_
  refine V.iload_n (i := 1) dX11_tired_1 rfl rfl ?_
  refine V.cq1D hE dX11_tired_2 lk_X11_141 rfl (c_isShip hE _ hI ⟨rfl, rfl⟩) (by decide) (by decide) (Nat.le_of_ble_eq_true rfl) (Nat.le_of_ble_eq_true rfl) (Nat.le_of_ble_eq_true rfl) ?_
  refine V.ifb_eq (tgt := 17) dX11_tired_5 rfl (fun c5 => ?_) (fun c5 => ?_)
  · refine V.aload_n (i := 0) dX11_tired_17 rfl rfl ?_
    refine V.iconst dX11_tired_18 ic_1 ?_
    refine V.cq1D hE dX11_tired_19 lk_X11_137 rfl (c_finding hE _ (by decide) ⟨rfl, rfl⟩) (by decide) (by decide) (Nat.le_of_ble_eq_true rfl) (Nat.le_of_ble_eq_true rfl) (Nat.le_of_ble_eq_true rfl) ?_
    refine V.iret dX11_tired_22 (Nat.le_of_ble_eq_true rfl) (Nat.le_of_ble_eq_true rfl) ?_
    exact pr_post (if_neg (by omega)) hp
  · refine V.iload_n (i := 2) dX11_tired_8 rfl rfl ?_
    refine V.iconst dX11_tired_9 ic_0 ?_
    refine V.iconst dX11_tired_10 ic_2 ?_
    refine V.cs3D dX11_tired_11 lk_X11_124 (c_isInN _ 0 2 (by decide) (by decide) ⟨rfl, rfl⟩) (by decide) (by decide) (Nat.le_of_ble_eq_true rfl) (Nat.le_of_ble_eq_true rfl) (Nat.le_of_ble_eq_true rfl) ?_
    refine V.ifb_ne (tgt := 23) dX11_tired_14 rfl (fun c14 => ?_) (fun c14 => ?_)
    · obtain ⟨i, hi, rfl⟩ := idxOf c5
      obtain ⟨j, hj, rfl⟩ := idxOf (x := w) (n := 3) (by omega)
      refine V.iload_n (i := 2) dX11_tired_23 rfl rfl ?_
      refine V.if_le (tgt := 58) dX11_tired_24 rfl (fun c24 => ?_) (fun c24 => ?_)
      · rw [show (0 : Int32) = nI 0 from rfl, nI_leI (by omega) (by decide)] at c24
        refine V.bipush dX11_tired_58 bc_23 ?_
        refine V.istore_n3 (by decide) dX11_tired_60 ?_
        obtain rfl : j = 0 := by omega
        exact loop i hi (fun x hx => by rw [← hx]; exact hp) _ rfl 145 23 rfl (by omega) rfl
      · rw [show (0 : Int32) = nI 0 from rfl, nI_leI (by omega) (by decide)] at c24
        have hc : restCnt G i 0 168 ≤ 168 := fb_ct_le _ _
        have hz : s_tired G (nI i) (nI j) = (if j = 1 then (b2 (restCnt G i 0 168 < 77), G) else (nI (restCnt G i 0 168), G)) := by
          unfold s_tired
          rw [tn_nI (by omega), tn_nI (by omega), if_pos (by omega), if_neg (by omega)]
        refine V.aload_n (i := 0) dX11_tired_27 rfl rfl ?_
        refine V.iload_n (i := 1) dX11_tired_28 rfl rfl ?_
        refine V.iconst dX11_tired_29 ic_0 ?_
        refine V.sipush dX11_tired_30 sc_168 ?_
        refine V.cq3D hE dX11_tired_33 lk_X11_255 rfl (c_restIn hE i 0 168 (by omega) (by omega) hI.rst ⟨rfl, rfl⟩) (by decide) (by decide) (Nat.le_of_ble_eq_true rfl) (Nat.le_of_ble_eq_true rfl) (Nat.le_of_ble_eq_true rfl) ?_
        refine V.istore_n3 (by decide) dX11_tired_36 ?_
        refine V.iload_n (i := 2) dX11_tired_37 rfl rfl ?_
        refine V.iconst dX11_tired_38 ic_2 ?_
        refine V.icmp_ne (tgt := 46) dX11_tired_39 rfl (fun c39 => ?_) (fun c39 => ?_)
        · rw [nI_eq (by omega) (by decide)] at c39
          refine V.iload_n (i := 3) dX11_tired_46 rfl rfl ?_
          refine V.bipush dX11_tired_47 bc_77 ?_
          refine V.icmp_ge (tgt := 56) dX11_tired_49 rfl (fun c49 => ?_) (fun c49 => ?_)
          · rw [nI_leI (by decide) (by omega)] at c49
            refine V.iconst dX11_tired_56 ic_0 ?_
            refine V.iret dX11_tired_57 (Nat.le_of_ble_eq_true rfl) (Nat.le_of_ble_eq_true rfl) ?_
            refine pr_post (hz.trans ?_) hp
            first | (rw [if_neg (by omega)]; done) | (rw [if_pos (by omega), b2T (by omega)]; done) | (rw [if_pos (by omega), b2F (by omega)]; done)
          · rw [nI_leI (by decide) (by omega)] at c49
            refine V.iconst dX11_tired_52 ic_1 ?_
            refine V.goto (tgt := 57) dX11_tired_53 rfl ?_
            refine V.iret dX11_tired_57 (Nat.le_of_ble_eq_true rfl) (Nat.le_of_ble_eq_true rfl) ?_
            refine pr_post (hz.trans ?_) hp
            first | (rw [if_neg (by omega)]; done) | (rw [if_pos (by omega), b2T (by omega)]; done) | (rw [if_pos (by omega), b2F (by omega)]; done)
        · rw [nI_eq (by omega) (by decide)] at c39
          refine V.iload_n (i := 3) dX11_tired_42 rfl rfl ?_
          refine V.goto (tgt := 57) dX11_tired_43 rfl ?_
          refine V.iret dX11_tired_57 (Nat.le_of_ble_eq_true rfl) (Nat.le_of_ble_eq_true rfl) ?_
          refine pr_post (hz.trans ?_) hp
          first | (rw [if_neg (by omega)]; done) | (rw [if_pos (by omega), b2T (by omega)]; done) | (rw [if_pos (by omega), b2F (by omega)]; done)
    · refine V.aload_n (i := 0) dX11_tired_17 rfl rfl ?_
      refine V.iconst dX11_tired_18 ic_1 ?_
      refine V.cq1D hE dX11_tired_19 lk_X11_137 rfl (c_finding hE _ (by decide) ⟨rfl, rfl⟩) (by decide) (by decide) (Nat.le_of_ble_eq_true rfl) (Nat.le_of_ble_eq_true rfl) (Nat.le_of_ble_eq_true rfl) ?_
      refine V.iret dX11_tired_22 (Nat.le_of_ble_eq_true rfl) (Nat.le_of_ble_eq_true rfl) ?_
      exact pr_post (if_neg (by omega)) hp
set_option maxRecDepth 100000 in
theorem c_months (hE : eF E = true) (n : Int32) (hp : post (some (.int (s_months G n).1)) (wG σ (s_months G n).2)) : MX11_months E 2 0 0 [.ref (eQ E 48), .int n] (wG σ G) post := by
  refine MA.of RX11 "months" [some (.ref (eQ E 48)), some (.int n), none] rfl rfl rfl (catAll rfl) (Nat.le_of_ble_eq_true rfl) rfl (fun X => ?_)
  refine V.iload_n (i := 1) dX11_months_0 rfl rfl ?_
  refine V.iconst dX11_months_1 ic_1 ?_
  refine V.bipush dX11_months_2 bc_99 ?_
  refine V.cs3D dX11_months_4 lk_X11_124 (c_isInN _ 1 99 (by decide) (by decide) ⟨rfl, rfl⟩) (by decide) (by decide) (Nat.le_of_ble_eq_true rfl) (Nat.le_of_ble_eq_true rfl) (Nat.le_of_ble_eq_true rfl) ?_
  refine V.ifb_ne (tgt := 16) dX11_months_7 rfl (fun c7 => ?_) (fun c7 => ?_)
  · refine V.aload_n (i := 0) dX11_months_16 rfl rfl ?_
    refine V.mgeti hE dX11_months_17 fl_X11_89 rfl ?_
    refine V.istore_n2 (by decide) dX11_months_20 ?_
    refine V.aload_n (i := 0) dX11_months_21 rfl rfl ?_
    refine V.iload_n (i := 1) dX11_months_22 rfl rfl ?_
    refine V.mputi hE dX11_months_23 fl_X11_89 rfl rfl rfl ?_
    refine V.iload_n (i := 2) dX11_months_26 rfl rfl ?_
    refine V.iret dX11_months_27 (Nat.le_of_ble_eq_true rfl) (Nat.le_of_ble_eq_true rfl) ?_
    exact pr_post (if_pos (by omega)) hp
  · refine V.aload_n (i := 0) dX11_months_10 rfl rfl ?_
    refine V.iconst dX11_months_11 ic_1 ?_
    refine V.cq1D hE dX11_months_12 lk_X11_137 rfl (c_finding hE _ (by decide) ⟨rfl, rfl⟩) (by decide) (by decide) (Nat.le_of_ble_eq_true rfl) (Nat.le_of_ble_eq_true rfl) (Nat.le_of_ble_eq_true rfl) ?_
    refine V.iret dX11_months_15 (Nat.le_of_ble_eq_true rfl) (Nat.le_of_ble_eq_true rfl) ?_
    exact pr_post (if_neg (by omega)) hp
set_option maxRecDepth 100000 in
theorem c_banned (hE : eF E = true) (s w : Int32) (hI : Inv G) (hp : post (some (.int (s_banned G s w).1)) (wG σ (s_banned G s w).2)) : MX11_banned E 3 0 0 [.ref (eQ E 48), .int s, .int w] (wG σ G) post := by
  refine MA.of RX11 "banned" [some (.ref (eQ E 48)), some (.int s), some (.int w)] rfl rfl rfl (catAll rfl) (Nat.le_of_ble_eq_true rfl) rfl (fun X => ?_)
  have h16 := hI.shN.2
  refine V.aload_n (i := 0) dX11_banned_0 rfl rfl ?_
  refine V.iload_n (i := 1) dX11_banned_1 rfl rfl ?_
  refine V.cq1D hE dX11_banned_2 lk_X11_141 rfl (c_isShip hE _ hI ⟨rfl, rfl⟩) (by decide) (by decide) (Nat.le_of_ble_eq_true rfl) (Nat.le_of_ble_eq_true rfl) (Nat.le_of_ble_eq_true rfl) ?_
  refine V.ifb_eq (tgt := 17) dX11_banned_5 rfl (fun c5 => ?_) (fun c5 => ?_)
  · refine V.aload_n (i := 0) dX11_banned_17 rfl rfl ?_
    refine V.iconst dX11_banned_18 ic_1 ?_
    refine V.cq1D hE dX11_banned_19 lk_X11_137 rfl (c_finding hE _ (by decide) ⟨rfl, rfl⟩) (by decide) (by decide) (Nat.le_of_ble_eq_true rfl) (Nat.le_of_ble_eq_true rfl) (Nat.le_of_ble_eq_true rfl) ?_
    refine V.iret dX11_banned_22 (Nat.le_of_ble_eq_true rfl) (Nat.le_of_ble_eq_true rfl) ?_
    exact pr_post (if_neg (by omega)) hp
  · refine V.iload_n (i := 2) dX11_banned_8 rfl rfl ?_
    refine V.iconst dX11_banned_9 ic_0 ?_
    refine V.iconst dX11_banned_10 ic_2 ?_
    refine V.cs3D dX11_banned_11 lk_X11_124 (c_isInN _ 0 2 (by decide) (by decide) ⟨rfl, rfl⟩) (by decide) (by decide) (Nat.le_of_ble_eq_true rfl) (Nat.le_of_ble_eq_true rfl) (Nat.le_of_ble_eq_true rfl) ?_
    refine V.ifb_ne (tgt := 23) dX11_banned_14 rfl (fun c14 => ?_) (fun c14 => ?_)
    · obtain ⟨i, hi, rfl⟩ := idxOf c5
      obtain ⟨j, hj, rfl⟩ := idxOf (x := w) (n := 3) (by omega)
      have hz : s_banned G (nI i) (nI j) = (if j = 0 then (b2 (¬ G 36 i = 0), G) else if j = 1 then (G 37 i, G) else if G 36 i = 0 then fnd G 2 else (G 38 i, G)) := by
        unfold s_banned
        rw [tn_nI (by omega), tn_nI (by omega), if_pos (by omega)]
      refine V.iload_n (i := 2) dX11_banned_23 rfl rfl ?_
      refine V.if_ne (tgt := 44) dX11_banned_24 rfl (fun c24 => ?_) (fun c24 => ?_)
      · rw [show (0 : Int32) = nI 0 from rfl, nI_eq (by omega) (by decide)] at c24
        refine V.iload_n (i := 2) dX11_banned_44 rfl rfl ?_
        refine V.iconst dX11_banned_45 ic_1 ?_
        refine V.icmp_ne (tgt := 58) dX11_banned_46 rfl (fun c46 => ?_) (fun c46 => ?_)
        · rw [nI_eq (by omega) (by decide)] at c46
          refine V.aload_n (i := 0) dX11_banned_58 rfl rfl ?_
          refine V.mgeta hE dX11_banned_59 fl_X11_93 rfl ?_
          refine V.iload_n (i := 1) dX11_banned_62 rfl rfl ?_
          refine V.mzald hE dX11_banned_63 rfl rfl rfl (show _ < 16 from (by omega)) ?_
          refine V.if_eq (tgt := 76) dX11_banned_64 rfl (fun c64 => ?_) (fun c64 => ?_)
          · refine V.aload_n (i := 0) dX11_banned_76 rfl rfl ?_
            refine V.iconst dX11_banned_77 ic_2 ?_
            refine V.cq1D hE dX11_banned_78 lk_X11_137 rfl (c_finding hE _ (by decide) ⟨rfl, rfl⟩) (by decide) (by decide) (Nat.le_of_ble_eq_true rfl) (Nat.le_of_ble_eq_true rfl) (Nat.le_of_ble_eq_true rfl) ?_
            refine V.iret dX11_banned_81 (Nat.le_of_ble_eq_true rfl) (Nat.le_of_ble_eq_true rfl) ?_
            refine pr_post (hz.trans ?_) hp
            first | (rw [if_pos c24, b2T c33]; done) | (rw [if_pos c24, b2F (Classical.not_not.mpr c33)]; done) | (rw [if_neg c24, if_pos c46]; done) | (rw [if_neg c24, if_neg c46, if_pos c64]; done) | (rw [if_neg c24, if_neg c46, if_neg c64]; done)
          · refine V.aload_n (i := 0) dX11_banned_67 rfl rfl ?_
            refine V.mgeta hE dX11_banned_68 fl_X11_99 rfl ?_
            refine V.iload_n (i := 1) dX11_banned_71 rfl rfl ?_
            refine V.miald hE dX11_banned_72 rfl rfl rfl (show _ < 16 from (by omega)) ?_
            refine V.goto (tgt := 81) dX11_banned_73 rfl ?_
            refine V.iret dX11_banned_81 (Nat.le_of_ble_eq_true rfl) (Nat.le_of_ble_eq_true rfl) ?_
            refine pr_post (hz.trans ?_) hp
            first | (rw [if_pos c24, b2T c33]; done) | (rw [if_pos c24, b2F (Classical.not_not.mpr c33)]; done) | (rw [if_neg c24, if_pos c46]; done) | (rw [if_neg c24, if_neg c46, if_pos c64]; done) | (rw [if_neg c24, if_neg c46, if_neg c64]; done)
        · rw [nI_eq (by omega) (by decide)] at c46
          refine V.aload_n (i := 0) dX11_banned_49 rfl rfl ?_
          refine V.mgeta hE dX11_banned_50 fl_X11_96 rfl ?_
          refine V.iload_n (i := 1) dX11_banned_53 rfl rfl ?_
          refine V.miald hE dX11_banned_54 rfl rfl rfl (show _ < 16 from (by omega)) ?_
          refine V.goto (tgt := 81) dX11_banned_55 rfl ?_
          refine V.iret dX11_banned_81 (Nat.le_of_ble_eq_true rfl) (Nat.le_of_ble_eq_true rfl) ?_
          refine pr_post (hz.trans ?_) hp
          first | (rw [if_pos c24, b2T c33]; done) | (rw [if_pos c24, b2F (Classical.not_not.mpr c33)]; done) | (rw [if_neg c24, if_pos c46]; done) | (rw [if_neg c24, if_neg c46, if_pos c64]; done) | (rw [if_neg c24, if_neg c46, if_neg c64]; done)
      · rw [show (0 : Int32) = nI 0 from rfl, nI_eq (by omega) (by decide)] at c24
        refine V.aload_n (i := 0) dX11_banned_27 rfl rfl ?_
        refine V.mgeta hE dX11_banned_28 fl_X11_93 rfl ?_
        refine V.iload_n (i := 1) dX11_banned_31 rfl rfl ?_
        refine V.mzald hE dX11_banned_32 rfl rfl rfl (show _ < 16 from (by omega)) ?_
        refine V.if_eq (tgt := 40) dX11_banned_33 rfl (fun c33 => ?_) (fun c33 => ?_)
        · refine V.iconst dX11_banned_40 ic_0 ?_
          refine V.goto (tgt := 81) dX11_banned_41 rfl ?_
          refine V.iret dX11_banned_81 (Nat.le_of_ble_eq_true rfl) (Nat.le_of_ble_eq_true rfl) ?_
          refine pr_post (hz.trans ?_) hp
          first | (rw [if_pos c24, b2T c33]; done) | (rw [if_pos c24, b2F (Classical.not_not.mpr c33)]; done) | (rw [if_neg c24, if_pos c46]; done) | (rw [if_neg c24, if_neg c46, if_pos c64]; done) | (rw [if_neg c24, if_neg c46, if_neg c64]; done)
        · refine V.iconst dX11_banned_36 ic_1 ?_
          refine V.goto (tgt := 81) dX11_banned_37 rfl ?_
          refine V.iret dX11_banned_81 (Nat.le_of_ble_eq_true rfl) (Nat.le_of_ble_eq_true rfl) ?_
          refine pr_post (hz.trans ?_) hp
          first | (rw [if_pos c24, b2T c33]; done) | (rw [if_pos c24, b2F (Classical.not_not.mpr c33)]; done) | (rw [if_neg c24, if_pos c46]; done) | (rw [if_neg c24, if_neg c46, if_pos c64]; done) | (rw [if_neg c24, if_neg c46, if_neg c64]; done)
    · refine V.aload_n (i := 0) dX11_banned_17 rfl rfl ?_
      refine V.iconst dX11_banned_18 ic_1 ?_
      refine V.cq1D hE dX11_banned_19 lk_X11_137 rfl (c_finding hE _ (by decide) ⟨rfl, rfl⟩) (by decide) (by decide) (Nat.le_of_ble_eq_true rfl) (Nat.le_of_ble_eq_true rfl) (Nat.le_of_ble_eq_true rfl) ?_
      refine V.iret dX11_banned_22 (Nat.le_of_ble_eq_true rfl) (Nat.le_of_ble_eq_true rfl) ?_
      exact pr_post (if_neg (by omega)) hp
set_option maxRecDepth 100000 in
theorem c_lift (hE : eF E = true) (s : Int32) (hI : Inv G) (hp : post (some (.int (s_lift G s).1)) (wG σ (s_lift G s).2)) : MX11_lift E 3 0 0 [.ref (eQ E 48), .int s] (wG σ G) post := by
  refine MA.of RX11 "lift" [some (.ref (eQ E 48)), some (.int s)] rfl rfl rfl (catAll rfl) (Nat.le_of_ble_eq_true rfl) rfl (fun X => ?_)
  have h16 := hI.shN.2
  have hn := hI.caN
  refine V.aload_n (i := 0) dX11_lift_0 rfl rfl ?_
  refine V.iload_n (i := 1) dX11_lift_1 rfl rfl ?_
  refine V.cq1D hE dX11_lift_2 lk_X11_141 rfl (c_isShip hE _ hI ⟨rfl, rfl⟩) (by decide) (by decide) (Nat.le_of_ble_eq_true rfl) (Nat.le_of_ble_eq_true rfl) (Nat.le_of_ble_eq_true rfl) ?_
  refine V.ifb_ne (tgt := 14) dX11_lift_5 rfl (fun c5 => ?_) (fun c5 => ?_)
  · obtain ⟨i, hi, rfl⟩ := idxOf c5
    have hz : s_lift G (nI i) = (if G 36 i = 0 ∨ openOf G (nI i) ≠ none ∨ G 0 0 - G 38 i < nI 90 * G 37 i then fnd G 3 else (nI 1, u2 G 36 i (nI 0))) := by
      unfold s_lift
      rw [tn_nI (by omega), if_pos (by omega)]
    refine V.aload_n (i := 0) dX11_lift_14 rfl rfl ?_
    refine V.mgeta hE dX11_lift_15 fl_X11_93 rfl ?_
    refine V.iload_n (i := 1) dX11_lift_18 rfl rfl ?_
    refine V.mzald hE dX11_lift_19 rfl rfl rfl (show _ < 16 from (by omega)) ?_
    refine V.if_eq (tgt := 54) dX11_lift_20 rfl (fun c20 => ?_) (fun c20 => ?_)
    · refine V.aload_n (i := 0) dX11_lift_54 rfl rfl ?_
      refine V.iconst dX11_lift_55 ic_3 ?_
      refine V.cq1D hE dX11_lift_56 lk_X11_137 rfl (c_finding hE _ (by decide) ⟨rfl, rfl⟩) (by decide) (by decide) (Nat.le_of_ble_eq_true rfl) (Nat.le_of_ble_eq_true rfl) (Nat.le_of_ble_eq_true rfl) ?_
      refine V.iret dX11_lift_59 (Nat.le_of_ble_eq_true rfl) (Nat.le_of_ble_eq_true rfl) ?_
      exact pr_post (hz.trans (if_pos (by first | exact Or.inl c20 | exact Or.inr (Or.inl c28) | exact Or.inr (Or.inr (Classical.not_not.mp c51))))) hp
    · refine V.aload_n (i := 0) dX11_lift_23 rfl rfl ?_
      refine V.iload_n (i := 1) dX11_lift_24 rfl rfl ?_
      refine V.cq1D hE dX11_lift_25 lk_X11_172 rfl (c_openCall hE _ hI ⟨rfl, rfl⟩) (by decide) (by decide) (Nat.le_of_ble_eq_true rfl) (Nat.le_of_ble_eq_true rfl) (Nat.le_of_ble_eq_true rfl) ?_
      refine V.if_ge (tgt := 54) dX11_lift_28 rfl (fun c28 => ?_) (fun c28 => ?_)
      · rw [optI_ge _ (fun c h => by have := openK_lt _ _ _ _ h; omega)] at c28
        refine V.aload_n (i := 0) dX11_lift_54 rfl rfl ?_
        refine V.iconst dX11_lift_55 ic_3 ?_
        refine V.cq1D hE dX11_lift_56 lk_X11_137 rfl (c_finding hE _ (by decide) ⟨rfl, rfl⟩) (by decide) (by decide) (Nat.le_of_ble_eq_true rfl) (Nat.le_of_ble_eq_true rfl) (Nat.le_of_ble_eq_true rfl) ?_
        refine V.iret dX11_lift_59 (Nat.le_of_ble_eq_true rfl) (Nat.le_of_ble_eq_true rfl) ?_
        exact pr_post (hz.trans (if_pos (by first | exact Or.inl c20 | exact Or.inr (Or.inl c28) | exact Or.inr (Or.inr (Classical.not_not.mp c51))))) hp
      · rw [optI_ge _ (fun c h => by have := openK_lt _ _ _ _ h; omega)] at c28
        refine V.aload_n (i := 0) dX11_lift_31 rfl rfl ?_
        refine V.mgeti hE dX11_lift_32 fl_X11_134 rfl ?_
        refine V.aload_n (i := 0) dX11_lift_35 rfl rfl ?_
        refine V.mgeta hE dX11_lift_36 fl_X11_99 rfl ?_
        refine V.iload_n (i := 1) dX11_lift_39 rfl rfl ?_
        refine V.miald hE dX11_lift_40 rfl rfl rfl (show _ < 16 from (by omega)) ?_
        refine V.isub dX11_lift_41 ?_
        refine V.bipush dX11_lift_42 bc_90 ?_
        refine V.aload_n (i := 0) dX11_lift_44 rfl rfl ?_
        refine V.mgeta hE dX11_lift_45 fl_X11_96 rfl ?_
        refine V.iload_n (i := 1) dX11_lift_48 rfl rfl ?_
        refine V.miald hE dX11_lift_49 rfl rfl rfl (show _ < 16 from (by omega)) ?_
        refine V.imul dX11_lift_50 ?_
        refine V.icmp_ge (tgt := 60) dX11_lift_51 rfl (fun c51 => ?_) (fun c51 => ?_)
        · rw [← Int32.not_lt] at c51
          refine V.aload_n (i := 0) dX11_lift_60 rfl rfl ?_
          refine V.mgeta hE dX11_lift_61 fl_X11_93 rfl ?_
          refine V.iload_n (i := 1) dX11_lift_64 rfl rfl ?_
          refine V.iconst dX11_lift_65 ic_0 ?_
          refine V.mzast hE dX11_lift_66 rfl rfl (by decide) rfl (show _ < 16 from (by omega)) ?_
          refine V.iconst dX11_lift_67 ic_1 ?_
          refine V.iret dX11_lift_68 (Nat.le_of_ble_eq_true rfl) (Nat.le_of_ble_eq_true rfl) ?_
          exact pr_post (hz.trans (if_neg (fun q => q.elim c20 (fun q => q.elim c28 c51)))) hp
        · rw [← Int32.not_lt] at c51
          refine V.aload_n (i := 0) dX11_lift_54 rfl rfl ?_
          refine V.iconst dX11_lift_55 ic_3 ?_
          refine V.cq1D hE dX11_lift_56 lk_X11_137 rfl (c_finding hE _ (by decide) ⟨rfl, rfl⟩) (by decide) (by decide) (Nat.le_of_ble_eq_true rfl) (Nat.le_of_ble_eq_true rfl) (Nat.le_of_ble_eq_true rfl) ?_
          refine V.iret dX11_lift_59 (Nat.le_of_ble_eq_true rfl) (Nat.le_of_ble_eq_true rfl) ?_
          exact pr_post (hz.trans (if_pos (by first | exact Or.inl c20 | exact Or.inr (Or.inl c28) | exact Or.inr (Or.inr (Classical.not_not.mp c51))))) hp
  · refine V.aload_n (i := 0) dX11_lift_8 rfl rfl ?_
    refine V.iconst dX11_lift_9 ic_1 ?_
    refine V.cq1D hE dX11_lift_10 lk_X11_137 rfl (c_finding hE _ (by decide) ⟨rfl, rfl⟩) (by decide) (by decide) (Nat.le_of_ble_eq_true rfl) (Nat.le_of_ble_eq_true rfl) (Nat.le_of_ble_eq_true rfl) ?_
    refine V.iret dX11_lift_13 (Nat.le_of_ble_eq_true rfl) (Nat.le_of_ble_eq_true rfl) ?_
    exact pr_post (if_neg (by omega)) hp
end REF10

