/-! ===== the model: doubles, draws, what is told ===== -/
theorem smN_le {f : Nat → Nat} {c : Nat} (h : ∀ k, f k ≤ c) : ∀ n, smN f n ≤ n * c
  | 0 => Nat.zero_le _
  | n + 1 => by
    have := smN_le h n
    have := h n
    unfold smN
    rw [Nat.succ_mul]
    omega
theorem smN_le2 {f : Nat → Nat} {c : Nat} {N : Nat} (h : ∀ k, k < N → f k ≤ c) : ∀ n, n ≤ N → smN f n ≤ n * c
  | 0, _ => Nat.zero_le _
  | n + 1, hn => by
    have := smN_le2 h n (by omega)
    have := h n (by omega)
    unfold smN
    rw [Nat.succ_mul]
    omega
theorem smN_zero {f : Nat → Nat} : ∀ {n : Nat}, smN f n = 0 ↔ ∀ k, k < n → f k = 0
  | 0 => ⟨fun _ k h => by omega, fun _ => rfl⟩
  | n + 1 => by
    have ih := smN_zero (f := f) (n := n)
    unfold smN
    constructor
    · intro h k hk
      by_cases e : k = n
      · subst e; omega
      · exact ih.mp (by omega) k (by omega)
    · intro h
      have h1 := ih.mpr (fun k hk => h k (by omega))
      have h2 := h n (by omega)
      omega
theorem cnt10_le (n : Nat) : cnt10 n ≤ 10 := fb_ct_le _ _
theorem hbt_le {G : GS} {b : Int32} {f : Nat → Nat → Nat} (hf : ∀ a b, f a b ≤ 10) (x y : Nat) : hbt G b f x y ≤ 10 := by
  unfold hbt
  split
  · exact hf _ _
  · omega
theorem allR_le (G : GS) : ∀ l, ptN G l ≤ 10000 := by
  intro l
  unfold ptN
  split
  · exact Nat.div_le_self _ _
  · omega
theorem drawn_all {G : GS} (hI : Inv G) : G 33 0 = 0 ↔ allR G = 0 := by
  rw [hI.drN]
  have h60 : fb_ct (fun l => decide (0 < gN G 32 l)) (nLk G) ≤ nLk G := fb_ct_le _ _
  have hl := hI.lkN.2
  rw [show (0 : Int32) = nI 0 from rfl, nI_eq (by omega) (by decide), fb_ct_zero]
  unfold allR
  rw [smN_zero]
  constructor
  · intro h k hk
    have := h k hk
    unfold ptN
    rw [if_neg (by simpa using this)]
  · intro h k hk
    have h1 := h k hk
    have h2 := (hI.lkC k hk).2
    unfold ptN at h1
    by_cases q : 0 < gN G 32 k
    · rw [if_pos q] at h1
      have : 10000 / gN G 32 k ≥ 100 := (Nat.le_div_iff_mul_le q).mpr (by omega)
      omega
    · simpa using q
section REF11
variable {E : VE} {σ : Sg} {G : GS} {post : Option Value → Sg → Prop}
set_option maxRecDepth 100000 in
theorem c_ones {σ : Sg} (n : Nat) (hn : n < 2 ^ 31) (hp : post (some (.int (nI (cnt10 n)))) σ) : MX11_ones E 1 0 0 [.int (nI n)] σ post := by
  refine MA.of RX11 "ones" [some (.int (nI n)), none, none] rfl rfl rfl (catAll rfl) (Nat.le_of_ble_eq_true rfl) rfl (fun X => ?_)
  have loop : ∀ m k, k + m = 10 → ∀ v, v = nI (fb_ct (fun k => n.testBit k) k) → V E X RX11 "ones" cX11_ones 3 (some .int) 1 0 0 (QM E X post 0 0) σ 0 0 4 [some (.int (nI n)), some (.int v), some (.int (nI k))] [] := by
    intro m
    induction m with
    | zero =>
      intro k hk v hv
      refine V.iload_n (i := 2) dX11_ones_4 rfl rfl ?_
      refine V.bipush dX11_ones_5 bc_10 ?_
      refine V.icmp_geT (tgt := 24) dX11_ones_7 rfl (nI_le (by omega) (by omega)) ?_
      refine V.iload_n (i := 1) dX11_ones_24 rfl rfl ?_
      refine V.iret dX11_ones_25 (Nat.le_of_ble_eq_true rfl) (Nat.le_of_ble_eq_true rfl) ?_
      exact i_post (by rw [hv, cnt10, show k = 10 by omega]) hp
    | succ m ih =>
      intro k hk v hv
      refine V.iload_n (i := 2) dX11_ones_4 rfl rfl ?_
      refine V.bipush dX11_ones_5 bc_10 ?_
      refine V.icmp_geF (tgt := 24) dX11_ones_7 rfl (nI_ge (by omega) (by omega)) ?_
      refine V.iload_n (i := 1) dX11_ones_10 rfl rfl ?_
      refine V.iload_n (i := 0) dX11_ones_11 rfl rfl ?_
      refine V.iload_n (i := 2) dX11_ones_12 rfl rfl ?_
      refine V.ishr dX11_ones_13 ?_
      refine V.iconst dX11_ones_14 ic_1 ?_
      refine V.iand dX11_ones_15 ?_
      refine V.as _ (testBit_and1 hn (by omega)) ?_
      refine V.iadd dX11_ones_16 ?_
      refine V.istore_n1 (by decide) dX11_ones_17 ?_
      refine V.iinc2 (by decide) dX11_ones_18 (inc1 _) ?_
      refine V.goto (tgt := 4) dX11_ones_21 rfl ?_
      exact ih (k + 1) (by omega) _ (by rw [hv, nI_add, fb_ct_succ])
  refine V.iconst dX11_ones_0 ic_0 ?_
  refine V.istore_n1 (by decide) dX11_ones_1 ?_
  refine V.iconst dX11_ones_2 ic_0 ?_
  refine V.istore_n2 (by decide) dX11_ones_3 ?_
  exact loop 10 0 rfl _ rfl
set_option maxRecDepth 100000 in
theorem c_areDoubles (hE : eF E = true) (a b : Nat) (ha : a < 60) (hb : b < 60) (hp : post (some (.int (b2 (dbl G a b = true)))) (wG σ G)) : MX11_areDoubles E 1 0 0 [.ref (eQ E 48), .int (nI a), .int (nI b)] (wG σ G) post := by
  refine MA.of RX11 "areDoubles" [some (.ref (eQ E 48)), some (.int (nI a)), some (.int (nI b))] rfl rfl rfl (catAll rfl) (Nat.le_of_ble_eq_true rfl) rfl (fun X => ?_)
  refine V.aload_n (i := 0) dX11_areDoubles_0 rfl rfl ?_
  refine V.mgeta hE dX11_areDoubles_1 fl_X11_68 rfl ?_
  refine V.iload_n (i := 1) dX11_areDoubles_4 rfl rfl ?_
  refine V.miald hE dX11_areDoubles_5 rfl rfl rfl (show _ < 60 from (by omega)) ?_
  refine V.aload_n (i := 0) dX11_areDoubles_6 rfl rfl ?_
  refine V.mgeta hE dX11_areDoubles_7 fl_X11_68 rfl ?_
  refine V.iload_n (i := 2) dX11_areDoubles_10 rfl rfl ?_
  refine V.miald hE dX11_areDoubles_11 rfl rfl rfl (show _ < 60 from (by omega)) ?_
  refine V.icmp_ne (tgt := 34) dX11_areDoubles_12 rfl (fun c12 => ?_) (fun c12 => ?_)
  · refine V.iconst dX11_areDoubles_34 ic_0 ?_
    refine V.zret dX11_areDoubles_35 (by decide) (Nat.le_of_ble_eq_true rfl) (Nat.le_of_ble_eq_true rfl) ?_
    first | exact b2_ret1 (decide_eq_true ⟨c12, c27⟩) hp | exact b2_ret0 (fun z => c12 (of_decide_eq_true z).1) hp | exact b2_ret0 (fun z => (of_decide_eq_true z).2 c27) hp
  · refine V.aload_n (i := 0) dX11_areDoubles_15 rfl rfl ?_
    refine V.mgeta hE dX11_areDoubles_16 fl_X11_71 rfl ?_
    refine V.iload_n (i := 1) dX11_areDoubles_19 rfl rfl ?_
    refine V.miald hE dX11_areDoubles_20 rfl rfl rfl (show _ < 60 from (by omega)) ?_
    refine V.aload_n (i := 0) dX11_areDoubles_21 rfl rfl ?_
    refine V.mgeta hE dX11_areDoubles_22 fl_X11_71 rfl ?_
    refine V.iload_n (i := 2) dX11_areDoubles_25 rfl rfl ?_
    refine V.miald hE dX11_areDoubles_26 rfl rfl rfl (show _ < 60 from (by omega)) ?_
    refine V.icmp_eq (tgt := 34) dX11_areDoubles_27 rfl (fun c27 => ?_) (fun c27 => ?_)
    · refine V.iconst dX11_areDoubles_34 ic_0 ?_
      refine V.zret dX11_areDoubles_35 (by decide) (Nat.le_of_ble_eq_true rfl) (Nat.le_of_ble_eq_true rfl) ?_
      first | exact b2_ret1 (decide_eq_true ⟨c12, c27⟩) hp | exact b2_ret0 (fun z => c12 (of_decide_eq_true z).1) hp | exact b2_ret0 (fun z => (of_decide_eq_true z).2 c27) hp
    · refine V.iconst dX11_areDoubles_30 ic_1 ?_
      refine V.goto (tgt := 35) dX11_areDoubles_31 rfl ?_
      refine V.zret dX11_areDoubles_35 (by decide) (Nat.le_of_ble_eq_true rfl) (Nat.le_of_ble_eq_true rfl) ?_
      first | exact b2_ret1 (decide_eq_true ⟨c12, c27⟩) hp | exact b2_ret0 (fun z => c12 (of_decide_eq_true z).1) hp | exact b2_ret0 (fun z => (of_decide_eq_true z).2 c27) hp
set_option maxRecDepth 100000 in
theorem c_were (hE : eF E = true) (a b : Int32) (hI : Inv G) (hp : post (some (.int (s_were G a b).1)) (wG σ (s_were G a b).2)) : MX11_were E 3 0 0 [.ref (eQ E 48), .int a, .int b] (wG σ G) post := by
  refine MA.of RX11 "were" [some (.ref (eQ E 48)), some (.int a), some (.int b), none] rfl rfl rfl (catAll rfl) (Nat.le_of_ble_eq_true rfl) rfl (fun X => ?_)
  have h60 := hI.lkN.2
  refine V.aload_n (i := 0) dX11_were_0 rfl rfl ?_
  refine V.iload_n (i := 1) dX11_were_1 rfl rfl ?_
  refine V.cq1D hE dX11_were_2 lk_X11_226 rfl (c_isLook hE _ hI ⟨rfl, rfl⟩) (by decide) (by decide) (Nat.le_of_ble_eq_true rfl) (Nat.le_of_ble_eq_true rfl) (Nat.le_of_ble_eq_true rfl) ?_
  refine V.ifb_eq (tgt := 16) dX11_were_5 rfl (fun c5 => ?_) (fun c5 => ?_)
  · refine V.aload_n (i := 0) dX11_were_16 rfl rfl ?_
    refine V.iconst dX11_were_17 ic_1 ?_
    refine V.cq1D hE dX11_were_18 lk_X11_137 rfl (c_finding hE _ (by decide) ⟨rfl, rfl⟩) (by decide) (by decide) (Nat.le_of_ble_eq_true rfl) (Nat.le_of_ble_eq_true rfl) (Nat.le_of_ble_eq_true rfl) ?_
    refine V.iret dX11_were_21 (Nat.le_of_ble_eq_true rfl) (Nat.le_of_ble_eq_true rfl) ?_
    exact pr_post (if_neg (by omega)) hp
  · refine V.aload_n (i := 0) dX11_were_8 rfl rfl ?_
    refine V.iload_n (i := 2) dX11_were_9 rfl rfl ?_
    refine V.cq1D hE dX11_were_10 lk_X11_226 rfl (c_isLook hE _ hI ⟨rfl, rfl⟩) (by decide) (by decide) (Nat.le_of_ble_eq_true rfl) (Nat.le_of_ble_eq_true rfl) (Nat.le_of_ble_eq_true rfl) ?_
    refine V.ifb_ne (tgt := 22) dX11_were_13 rfl (fun c13 => ?_) (fun c13 => ?_)
    · obtain ⟨i, hi, rfl⟩ := idxOf c5
      obtain ⟨j, hj, rfl⟩ := idxOf c13
      have fi := hI.lkF i hi
      have fj := hI.lkF j hj
      have hz : s_were G (nI i) (nI j) = (if dbl G i j then (if cnt10 (gN G 30 i &&& gN G 30 j) = 0 then fnd G 2 else (nI (cnt10 (gN G 30 i) * cnt10 (gN G 30 j) / cnt10 (gN G 30 i &&& gN G 30 j)), G)) else fnd G 3) := by
        unfold s_were
        rw [show tn (nI i) = i from tn_nI (by omega), show tn (nI j) = j from tn_nI (by omega), if_pos (by omega)]
      have hc := cnt10_le (gN G 30 i &&& gN G 30 j)
      have hci := cnt10_le (gN G 30 i)
      have hcj := cnt10_le (gN G 30 j)
      have hm : cnt10 (gN G 30 i) * cnt10 (gN G 30 j) ≤ 100 := Nat.mul_le_mul hci hcj
      refine V.aload_n (i := 0) dX11_were_22 rfl rfl ?_
      refine V.iload_n (i := 1) dX11_were_23 rfl rfl ?_
      refine V.iload_n (i := 2) dX11_were_24 rfl rfl ?_
      refine V.cq2D hE dX11_were_25 lk_X11_258 rfl (c_areDoubles hE i j (by omega) (by omega) ⟨rfl, rfl⟩) (by decide) (by decide) (Nat.le_of_ble_eq_true rfl) (Nat.le_of_ble_eq_true rfl) (Nat.le_of_ble_eq_true rfl) ?_
      refine V.ifb_ne (tgt := 37) dX11_were_28 rfl (fun c28 => ?_) (fun c28 => ?_)
      · refine V.aload_n (i := 0) dX11_were_37 rfl rfl ?_
        refine V.mgeta hE dX11_were_38 fl_X11_77 rfl ?_
        refine V.iload_n (i := 1) dX11_were_41 rfl rfl ?_
        refine V.miald hE dX11_were_42 rfl rfl rfl (show _ < 60 from (by omega)) ?_
        refine V.aload_n (i := 0) dX11_were_43 rfl rfl ?_
        refine V.mgeta hE dX11_were_44 fl_X11_77 rfl ?_
        refine V.iload_n (i := 2) dX11_were_47 rfl rfl ?_
        refine V.miald hE dX11_were_48 rfl rfl rfl (show _ < 60 from (by omega)) ?_
        refine V.iand dX11_were_49 ?_
        refine V.as (nI (gN G 30 i &&& gN G 30 j)) (by rw [fi.1, fj.1, fa_and]) ?_
        refine V.cs1D dX11_were_50 lk_X11_261 (c_ones _ (Nat.lt_of_le_of_lt Nat.and_le_left (by omega)) ⟨rfl, rfl⟩) (by decide) (by decide) (Nat.le_of_ble_eq_true rfl) (Nat.le_of_ble_eq_true rfl) (Nat.le_of_ble_eq_true rfl) ?_
        refine V.istore_n3 (by decide) dX11_were_53 ?_
        refine V.iload_n (i := 3) dX11_were_54 rfl rfl ?_
        refine V.if_ne (tgt := 66) dX11_were_55 rfl (fun c55 => ?_) (fun c55 => ?_)
        · rw [show (0 : Int32) = nI 0 from rfl, nI_eq (by omega) (by decide)] at c55
          refine V.aload_n (i := 0) dX11_were_66 rfl rfl ?_
          refine V.mgeta hE dX11_were_67 fl_X11_77 rfl ?_
          refine V.iload_n (i := 1) dX11_were_70 rfl rfl ?_
          refine V.miald hE dX11_were_71 rfl rfl rfl (show _ < 60 from (by omega)) ?_
          refine V.as _ fi.1 ?_
          refine V.cs1D dX11_were_72 lk_X11_261 (c_ones _ (by omega) ⟨rfl, rfl⟩) (by decide) (by decide) (Nat.le_of_ble_eq_true rfl) (Nat.le_of_ble_eq_true rfl) (Nat.le_of_ble_eq_true rfl) ?_
          refine V.aload_n (i := 0) dX11_were_75 rfl rfl ?_
          refine V.mgeta hE dX11_were_76 fl_X11_77 rfl ?_
          refine V.iload_n (i := 2) dX11_were_79 rfl rfl ?_
          refine V.miald hE dX11_were_80 rfl rfl rfl (show _ < 60 from (by omega)) ?_
          refine V.as _ fj.1 ?_
          refine V.cs1D dX11_were_81 lk_X11_261 (c_ones _ (by omega) ⟨rfl, rfl⟩) (by decide) (by decide) (Nat.le_of_ble_eq_true rfl) (Nat.le_of_ble_eq_true rfl) (Nat.le_of_ble_eq_true rfl) ?_
          refine V.imul dX11_were_84 ?_
          refine V.as _ (pk_mul _ _) ?_
          refine V.iload_n (i := 3) dX11_were_85 rfl rfl ?_
          refine V.idiv dX11_were_86 (by rw [show (0 : Int32) = nI 0 from rfl, nI_eq (by omega) (by decide)]; exact c55) ?_
          refine V.as _ (pk_div (by omega) (by omega) (by omega)) ?_
          refine V.iret dX11_were_87 (Nat.le_of_ble_eq_true rfl) (Nat.le_of_ble_eq_true rfl) ?_
          first | exact pr_post (hz.trans ((if_pos c28).trans (if_pos c55))) hp | exact pr_post (hz.trans ((if_pos c28).trans (if_neg c55))) hp
        · rw [show (0 : Int32) = nI 0 from rfl, nI_eq (by omega) (by decide)] at c55
          refine V.aload_n (i := 0) dX11_were_58 rfl rfl ?_
          refine V.iconst dX11_were_59 ic_2 ?_
          refine V.cq1D hE dX11_were_60 lk_X11_137 rfl (c_finding hE _ (by decide) ⟨rfl, rfl⟩) (by decide) (by decide) (Nat.le_of_ble_eq_true rfl) (Nat.le_of_ble_eq_true rfl) (Nat.le_of_ble_eq_true rfl) ?_
          refine V.goto (tgt := 87) dX11_were_63 rfl ?_
          refine V.iret dX11_were_87 (Nat.le_of_ble_eq_true rfl) (Nat.le_of_ble_eq_true rfl) ?_
          first | exact pr_post (hz.trans ((if_pos c28).trans (if_pos c55))) hp | exact pr_post (hz.trans ((if_pos c28).trans (if_neg c55))) hp
      · refine V.aload_n (i := 0) dX11_were_31 rfl rfl ?_
        refine V.iconst dX11_were_32 ic_3 ?_
        refine V.cq1D hE dX11_were_33 lk_X11_137 rfl (c_finding hE _ (by decide) ⟨rfl, rfl⟩) (by decide) (by decide) (Nat.le_of_ble_eq_true rfl) (Nat.le_of_ble_eq_true rfl) (Nat.le_of_ble_eq_true rfl) ?_
        refine V.iret dX11_were_36 (Nat.le_of_ble_eq_true rfl) (Nat.le_of_ble_eq_true rfl) ?_
        exact pr_post (hz.trans (if_neg c28)) hp
    · refine V.aload_n (i := 0) dX11_were_16 rfl rfl ?_
      refine V.iconst dX11_were_17 ic_1 ?_
      refine V.cq1D hE dX11_were_18 lk_X11_137 rfl (c_finding hE _ (by decide) ⟨rfl, rfl⟩) (by decide) (by decide) (Nat.le_of_ble_eq_true rfl) (Nat.le_of_ble_eq_true rfl) (Nat.le_of_ble_eq_true rfl) ?_
      refine V.iret dX11_were_21 (Nat.le_of_ble_eq_true rfl) (Nat.le_of_ble_eq_true rfl) ?_
      exact pr_post (if_neg (by omega)) hp
set_option maxRecDepth 100000 in
theorem c_draw (hE : eF E = true) (l b : Int32) (hI : Inv G) (hp : post (some (.int (s_draw G l b).1)) (wG σ (s_draw G l b).2)) : MX11_draw E 3 0 0 [.ref (eQ E 48), .int l, .int b] (wG σ G) post := by
  refine MA.of RX11 "draw" [some (.ref (eQ E 48)), some (.int l), some (.int b)] rfl rfl rfl (catAll rfl) (Nat.le_of_ble_eq_true rfl) rfl (fun X => ?_)
  have h60 := hI.lkN.2
  refine V.aload_n (i := 0) dX11_draw_0 rfl rfl ?_
  refine V.iload_n (i := 1) dX11_draw_1 rfl rfl ?_
  refine V.cq1D hE dX11_draw_2 lk_X11_226 rfl (c_isLook hE _ hI ⟨rfl, rfl⟩) (by decide) (by decide) (Nat.le_of_ble_eq_true rfl) (Nat.le_of_ble_eq_true rfl) (Nat.le_of_ble_eq_true rfl) ?_
  refine V.ifb_eq (tgt := 18) dX11_draw_5 rfl (fun c5 => ?_) (fun c5 => ?_)
  · refine V.aload_n (i := 0) dX11_draw_18 rfl rfl ?_
    refine V.iconst dX11_draw_19 ic_1 ?_
    refine V.cq1D hE dX11_draw_20 lk_X11_137 rfl (c_finding hE _ (by decide) ⟨rfl, rfl⟩) (by decide) (by decide) (Nat.le_of_ble_eq_true rfl) (Nat.le_of_ble_eq_true rfl) (Nat.le_of_ble_eq_true rfl) ?_
    refine V.iret dX11_draw_23 (Nat.le_of_ble_eq_true rfl) (Nat.le_of_ble_eq_true rfl) ?_
    exact pr_post (if_neg (by omega)) hp
  · refine V.iload_n (i := 2) dX11_draw_8 rfl rfl ?_
    refine V.iconst dX11_draw_9 ic_1 ?_
    refine V.bipush dX11_draw_10 bc_100 ?_
    refine V.cs3D dX11_draw_12 lk_X11_124 (c_isInN _ 1 100 (by decide) (by decide) ⟨rfl, rfl⟩) (by decide) (by decide) (Nat.le_of_ble_eq_true rfl) (Nat.le_of_ble_eq_true rfl) (Nat.le_of_ble_eq_true rfl) ?_
    refine V.ifb_ne (tgt := 24) dX11_draw_15 rfl (fun c15 => ?_) (fun c15 => ?_)
    · obtain ⟨i, hi, rfl⟩ := idxOf c5
      refine V.aload_n (i := 0) dX11_draw_24 rfl rfl ?_
      refine V.mgeta hE dX11_draw_25 fl_X11_83 rfl ?_
      refine V.iload_n (i := 1) dX11_draw_28 rfl rfl ?_
      refine V.miald hE dX11_draw_29 rfl rfl rfl (show _ < 60 from (by omega)) ?_
      refine V.if_le (tgt := 39) dX11_draw_30 rfl (fun c30 => ?_) (fun c30 => ?_)
      · rw [le0] at c30
        refine V.aload_n (i := 0) dX11_draw_39 rfl rfl ?_
        refine V.mgeta hE dX11_draw_40 fl_X11_83 rfl ?_
        refine V.iload_n (i := 1) dX11_draw_43 rfl rfl ?_
        refine V.iload_n (i := 2) dX11_draw_44 rfl rfl ?_
        refine V.miast hE dX11_draw_45 rfl rfl rfl (show _ < 60 from (by omega)) ?_
        refine V.aload_n (i := 0) dX11_draw_46 rfl rfl ?_
        refine V.dup dX11_draw_47 rfl ?_
        refine V.mgeti hE dX11_draw_48 fl_X11_264 rfl ?_
        refine V.iconst dX11_draw_51 ic_1 ?_
        refine V.iadd dX11_draw_52 ?_
        refine V.mputi hE dX11_draw_53 fl_X11_264 rfl rfl rfl ?_
        refine V.aload_n (i := 0) dX11_draw_56 rfl rfl ?_
        refine V.mgeti hE dX11_draw_57 fl_X11_264 rfl ?_
        refine V.iret dX11_draw_60 (Nat.le_of_ble_eq_true rfl) (Nat.le_of_ble_eq_true rfl) ?_
        exact pr_post ((if_pos (by omega)).trans ((if_neg (by rw [tn_nI (by omega)]; omega)).trans (by rw [tn_nI (by omega)]; rfl))) hp
      · rw [le0] at c30
        refine V.aload_n (i := 0) dX11_draw_33 rfl rfl ?_
        refine V.iconst dX11_draw_34 ic_3 ?_
        refine V.cq1D hE dX11_draw_35 lk_X11_137 rfl (c_finding hE _ (by decide) ⟨rfl, rfl⟩) (by decide) (by decide) (Nat.le_of_ble_eq_true rfl) (Nat.le_of_ble_eq_true rfl) (Nat.le_of_ble_eq_true rfl) ?_
        refine V.iret dX11_draw_38 (Nat.le_of_ble_eq_true rfl) (Nat.le_of_ble_eq_true rfl) ?_
        exact pr_post ((if_pos (by omega)).trans (if_pos (by rw [tn_nI (by omega)]; omega))) hp
    · refine V.aload_n (i := 0) dX11_draw_18 rfl rfl ?_
      refine V.iconst dX11_draw_19 ic_1 ?_
      refine V.cq1D hE dX11_draw_20 lk_X11_137 rfl (c_finding hE _ (by decide) ⟨rfl, rfl⟩) (by decide) (by decide) (Nat.le_of_ble_eq_true rfl) (Nat.le_of_ble_eq_true rfl) (Nat.le_of_ble_eq_true rfl) ?_
      refine V.iret dX11_draw_23 (Nat.le_of_ble_eq_true rfl) (Nat.le_of_ble_eq_true rfl) ?_
      exact pr_post (if_neg (by omega)) hp
set_option maxRecDepth 100000 in
theorem c_tell (hE : eF E = true) (v : Int32) (hI : Inv G) (hp : post (some (.int (s_tell G v).1)) (wG σ (s_tell G v).2)) : MX11_tell E 2 0 0 [.ref (eQ E 48), .int v] (wG σ G) post := by
  refine MA.of RX11 "tell" [some (.ref (eQ E 48)), some (.int v)] rfl rfl rfl (catAll rfl) (Nat.le_of_ble_eq_true rfl) rfl (fun X => ?_)
  have hn := hI.wtN
  refine V.aload_n (i := 0) dX11_tell_0 rfl rfl ?_
  refine V.mgeti hE dX11_tell_1 fl_X11_267 rfl ?_
  refine V.bipush dX11_tell_4 bc_16 ?_
  refine V.icmp_ne (tgt := 15) dX11_tell_6 rfl (fun c6 => ?_) (fun c6 => ?_)
  · have hne : nWt G ≠ 16 := fun e => c6 (by rw [hn.1, e])
    refine V.aload_n (i := 0) dX11_tell_15 rfl rfl ?_
    refine V.mgeta hE dX11_tell_16 fl_X11_102 rfl ?_
    refine V.aload_n (i := 0) dX11_tell_19 rfl rfl ?_
    refine V.mgeti hE dX11_tell_20 fl_X11_267 rfl ?_
    refine V.iload_n (i := 1) dX11_tell_23 rfl rfl ?_
    refine V.miast hE dX11_tell_24 rfl rfl hn.1 (show _ < 16 from (by omega)) ?_
    refine V.aload_n (i := 0) dX11_tell_25 rfl rfl ?_
    refine V.dup dX11_tell_26 rfl ?_
    refine V.mgeti hE dX11_tell_27 fl_X11_267 rfl ?_
    refine V.iconst dX11_tell_30 ic_1 ?_
    refine V.iadd dX11_tell_31 ?_
    refine V.as (nI (nWt G + 1)) (show G 39 0 + nI 1 = _ by rw [hn.1, nI_add]) ?_
    refine V.mputi hE dX11_tell_32 fl_X11_267 rfl rfl rfl ?_
    refine V.aload_n (i := 0) dX11_tell_35 rfl rfl ?_
    refine V.mgeti hE dX11_tell_36 fl_X11_267 rfl ?_
    refine V.iret dX11_tell_39 (Nat.le_of_ble_eq_true rfl) (Nat.le_of_ble_eq_true rfl) ?_
    exact pr_post (if_neg hne) hp
  · refine V.aload_n (i := 0) dX11_tell_9 rfl rfl ?_
    refine V.iconst dX11_tell_10 ic_4 ?_
    refine V.cq1D hE dX11_tell_11 lk_X11_137 rfl (c_finding hE _ (by decide) ⟨rfl, rfl⟩) (by decide) (by decide) (Nat.le_of_ble_eq_true rfl) (Nat.le_of_ble_eq_true rfl) (Nat.le_of_ble_eq_true rfl) ?_
    refine V.iret dX11_tell_14 (Nat.le_of_ble_eq_true rfl) (Nat.le_of_ble_eq_true rfl) ?_
    exact pr_post (if_pos (by have := hn.1.symm.trans c6; exact (nI_eq (by omega) (by decide)).mp this)) hp
set_option maxRecDepth 100000 in
theorem c_found (hE : eF E = true) (k : Int32) (hp : post (some (.int (s_found G k).1)) (wG σ (s_found G k).2)) : MX11_found E 2 0 0 [.ref (eQ E 48), .int k] (wG σ G) post := by
  refine MA.of RX11 "found" [some (.ref (eQ E 48)), some (.int k)] rfl rfl rfl (catAll rfl) (Nat.le_of_ble_eq_true rfl) rfl (fun X => ?_)
  refine V.iload_n (i := 1) dX11_found_0 rfl rfl ?_
  refine V.iconst dX11_found_1 ic_1 ?_
  refine V.iconst dX11_found_2 ic_5 ?_
  refine V.cs3D dX11_found_3 lk_X11_124 (c_isInN _ 1 5 (by decide) (by decide) ⟨rfl, rfl⟩) (by decide) (by decide) (Nat.le_of_ble_eq_true rfl) (Nat.le_of_ble_eq_true rfl) (Nat.le_of_ble_eq_true rfl) ?_
  refine V.ifb_eq (tgt := 18) dX11_found_6 rfl (fun c6 => ?_) (fun c6 => ?_)
  · refine V.aload_n (i := 0) dX11_found_18 rfl rfl ?_
    refine V.iconst dX11_found_19 ic_1 ?_
    refine V.cq1D hE dX11_found_20 lk_X11_137 rfl (c_finding hE _ (by decide) ⟨rfl, rfl⟩) (by decide) (by decide) (Nat.le_of_ble_eq_true rfl) (Nat.le_of_ble_eq_true rfl) (Nat.le_of_ble_eq_true rfl) ?_
    refine V.iret dX11_found_23 (Nat.le_of_ble_eq_true rfl) (Nat.le_of_ble_eq_true rfl) ?_
    first | exact pr_post (if_neg (by omega)) hp | exact pr_post ((if_pos (by omega)).trans (by rw [tn_nI (by omega)])) hp
  · obtain ⟨j, hj, rfl⟩ := idxOf (x := k) (n := 6) (by omega)
    refine V.aload_n (i := 0) dX11_found_9 rfl rfl ?_
    refine V.mgeta hE dX11_found_10 fl_X11_105 rfl ?_
    refine V.iload_n (i := 1) dX11_found_13 rfl rfl ?_
    refine V.miald hE dX11_found_14 rfl rfl rfl (show _ < 6 from (by omega)) ?_
    refine V.goto (tgt := 23) dX11_found_15 rfl ?_
    refine V.iret dX11_found_23 (Nat.le_of_ble_eq_true rfl) (Nat.le_of_ble_eq_true rfl) ?_
    first | exact pr_post (if_neg (by omega)) hp | exact pr_post ((if_pos (by omega)).trans (by rw [tn_nI (by omega)])) hp
set_option maxRecDepth 100000 in
theorem c_rate (hE : eF E = true) (hI : Inv G) (hp : post (some (.int (s_rate G).1)) (wG σ (s_rate G).2)) : MX11_rate E 2 0 0 [.ref (eQ E 48)] (wG σ G) post := by
  refine MA.of RX11 "rate" [some (.ref (eQ E 48)), none, none, none, none] rfl rfl rfl (catAll rfl) (Nat.le_of_ble_eq_true rfl) rfl (fun X => ?_)
  have hn := hI.lkN
  have hda := drawn_all hI
  have ha : allR G ≤ nLk G * 10000 := smN_le (allR_le G) _
  have hbl : ∀ l, (if G 31 l = 0 then 0 else ptN G l) ≤ 10000 := fun l => by
    have := allR_le G l
    split <;> omega
  have hb : badR G ≤ nLk G * 10000 := smN_le hbl _
  have loop : ∀ m l, l + m = nLk G → ∀ v1 v2, v1 = nI (smN (fun l => if G 31 l = 0 then 0 else ptN G l) l) → v2 = nI (smN (ptN G) l) → ∀ l4, V E X RX11 "rate" cX11_rate 5 (some .int) 2 0 0 (QM E X post 0 0) (wG σ G) 0 0 6 [some (.ref (eQ E 48)), some (.int v1), some (.int v2), some (.int (nI l)), l4] [] := by
    intro m
    induction m with
    | zero =>
      intro l hl v1 v2 h1 h2 l4
      have e1 : v1 = nI (badR G) := by rw [h1, badR, show l = nLk G by omega]
      have e2 : v2 = nI (allR G) := by rw [h2, allR, show l = nLk G by omega]
      refine V.iload_n (i := 3) dX11_rate_6 rfl rfl ?_
      refine V.aload_n (i := 0) dX11_rate_7 rfl rfl ?_
      refine V.mgeti hE dX11_rate_8 fl_X11_131 rfl ?_
      refine V.icmp_geT (tgt := 68) dX11_rate_11 rfl (lpT hn.1 (by omega) (by omega)) ?_
      refine V.aload_n (i := 0) dX11_rate_68 rfl rfl ?_
      refine V.mgeti hE dX11_rate_69 fl_X11_264 rfl ?_
      refine V.if_ne (tgt := 83) dX11_rate_72 rfl (fun c72 => ?_) (fun c72 => ?_)
      · rw [hda] at c72
        refine V.sipush dX11_rate_83 sc_1000 ?_
        refine V.iload_n (i := 1) dX11_rate_86 rfl rfl ?_
        refine V.imul dX11_rate_87 ?_
        refine V.as (nI (1000 * badR G)) (by rw [e1, pk_mul]) ?_
        refine V.iload_n (i := 2) dX11_rate_88 rfl rfl ?_
        refine V.idiv dX11_rate_89 (by rw [e2, show (0 : Int32) = nI 0 from rfl, nI_eq (by omega) (by decide)]; exact c72) ?_
        refine V.as (nI (1000 * badR G / allR G)) (by rw [e2]; exact pk_div (by omega) (by omega) (by omega)) ?_
        refine V.iret dX11_rate_90 (Nat.le_of_ble_eq_true rfl) (Nat.le_of_ble_eq_true rfl) ?_
        first | exact pr_post (if_pos c72) hp | exact pr_post (if_neg c72) hp
      · rw [hda] at c72
        refine V.aload_n (i := 0) dX11_rate_75 rfl rfl ?_
        refine V.iconst dX11_rate_76 ic_2 ?_
        refine V.cq1D hE dX11_rate_77 lk_X11_137 rfl (c_finding hE _ (by decide) ⟨rfl, rfl⟩) (by decide) (by decide) (Nat.le_of_ble_eq_true rfl) (Nat.le_of_ble_eq_true rfl) (Nat.le_of_ble_eq_true rfl) ?_
        refine V.goto (tgt := 90) dX11_rate_80 rfl ?_
        refine V.iret dX11_rate_90 (Nat.le_of_ble_eq_true rfl) (Nat.le_of_ble_eq_true rfl) ?_
        first | exact pr_post (if_pos c72) hp | exact pr_post (if_neg c72) hp
    | succ m ih =>
      intro l hl v1 v2 h1 h2 l4
      have hc := hI.lkC l (by omega)
      have J37 : ∀ x, x = nI (ptN G l) → ∀ l4, V E X RX11 "rate" cX11_rate 5 (some .int) 2 0 0 (QM E X post 0 0) (wG σ G) 0 0 37 [some (.ref (eQ E 48)), some (.int v1), some (.int v2), some (.int (nI l)), l4] [.int x] := by
        intro x hx l4
        refine V.istore4 (by decide) dX11_rate_37 ?_
        refine V.iload_n (i := 2) dX11_rate_39 rfl rfl ?_
        refine V.iload (i := 4) dX11_rate_40 rfl ?_
        refine V.iadd dX11_rate_42 ?_
        refine V.istore_n2 (by decide) dX11_rate_43 ?_
        refine V.iload_n (i := 1) dX11_rate_44 rfl rfl ?_
        refine V.aload_n (i := 0) dX11_rate_45 rfl rfl ?_
        refine V.mgeta hE dX11_rate_46 fl_X11_80 rfl ?_
        refine V.iload_n (i := 3) dX11_rate_49 rfl rfl ?_
        refine V.mzald hE dX11_rate_50 rfl rfl rfl (show _ < 60 from (by omega)) ?_
        refine V.if_eq (tgt := 59) dX11_rate_51 rfl (fun c51 => ?_) (fun c51 => ?_)
        · refine V.iconst dX11_rate_59 ic_0 ?_
          refine V.iadd dX11_rate_60 ?_
          refine V.istore_n1 (by decide) dX11_rate_61 ?_
          refine V.iinc3 (by decide) dX11_rate_62 (inc1 _) ?_
          refine V.goto (tgt := 6) dX11_rate_65 rfl ?_
          exact ih (l + 1) (by omega) _ _ (by rw [h1, smN]; first | (rw [if_pos c51, nI_add]) | (rw [if_neg c51, hx, nI_add])) (by rw [h2, hx, nI_add, smN]) _
        · refine V.iload (i := 4) dX11_rate_54 rfl ?_
          refine V.goto (tgt := 60) dX11_rate_56 rfl ?_
          refine V.iadd dX11_rate_60 ?_
          refine V.istore_n1 (by decide) dX11_rate_61 ?_
          refine V.iinc3 (by decide) dX11_rate_62 (inc1 _) ?_
          refine V.goto (tgt := 6) dX11_rate_65 rfl ?_
          exact ih (l + 1) (by omega) _ _ (by rw [h1, smN]; first | (rw [if_pos c51, nI_add]) | (rw [if_neg c51, hx, nI_add])) (by rw [h2, hx, nI_add, smN]) _
      refine V.iload_n (i := 3) dX11_rate_6 rfl rfl ?_
      refine V.aload_n (i := 0) dX11_rate_7 rfl rfl ?_
      refine V.mgeti hE dX11_rate_8 fl_X11_131 rfl ?_
      refine V.icmp_geF (tgt := 68) dX11_rate_11 rfl (lpF hn.1 (by omega) (by omega)) ?_
      refine V.aload_n (i := 0) dX11_rate_14 rfl rfl ?_
      refine V.mgeta hE dX11_rate_15 fl_X11_83 rfl ?_
      refine V.iload_n (i := 3) dX11_rate_18 rfl rfl ?_
      refine V.miald hE dX11_rate_19 rfl rfl rfl (show _ < 60 from (by omega)) ?_
      refine V.if_le (tgt := 36) dX11_rate_20 rfl (fun c20 => ?_) (fun c20 => ?_)
      · rw [hc.1, show (0 : Int32) = nI 0 from rfl, nI_leI (by omega) (by decide)] at c20
        refine V.iconst dX11_rate_36 ic_0 ?_
        exact J37 _ (by unfold ptN; first | (rw [if_pos (by omega)]) | (rw [if_neg (by omega)])) _
      · rw [hc.1, show (0 : Int32) = nI 0 from rfl, nI_leI (by omega) (by decide)] at c20
        refine V.sipush dX11_rate_23 sc_10000 ?_
        refine V.aload_n (i := 0) dX11_rate_26 rfl rfl ?_
        refine V.mgeta hE dX11_rate_27 fl_X11_83 rfl ?_
        refine V.iload_n (i := 3) dX11_rate_30 rfl rfl ?_
        refine V.miald hE dX11_rate_31 rfl rfl rfl (show _ < 60 from (by omega)) ?_
        refine V.idiv dX11_rate_32 (by rw [hc.1, show (0 : Int32) = nI 0 from rfl, nI_eq (by omega) (by decide)]; omega) ?_
        refine V.as (nI (10000 / gN G 32 l)) (by rw [hc.1]; exact pk_div (by decide) (by omega) (by omega)) ?_
        refine V.goto (tgt := 37) dX11_rate_33 rfl ?_
        exact J37 _ (by unfold ptN; first | (rw [if_pos (by omega)]) | (rw [if_neg (by omega)])) _
  refine V.iconst dX11_rate_0 ic_0 ?_
  refine V.istore_n1 (by decide) dX11_rate_1 ?_
  refine V.iconst dX11_rate_2 ic_0 ?_
  refine V.istore_n2 (by decide) dX11_rate_3 ?_
  refine V.iconst dX11_rate_4 ic_0 ?_
  refine V.istore_n3 (by decide) dX11_rate_5 ?_
  exact loop (nLk G) 0 (by omega) _ _ rfl rfl _
set_option maxRecDepth 100000 in
theorem c_habit (hE : eF E = true) (b : Int32) (hI : Inv G) (hp : post (some (.int (s_habit G b).1)) (wG σ (s_habit G b).2)) : MX11_habit E 2 0 0 [.ref (eQ E 48), .int b] (wG σ G) post := by
  refine MA.of RX11 "habit" [some (.ref (eQ E 48)), some (.int b), none, none, none, none] rfl rfl rfl (catAll rfl) (Nat.le_of_ble_eq_true rfl) rfl (fun X => ?_)
  have hn := hI.lkN
  have hfb : ∀ x y, fBoth G x y ≤ 10 := fun x y => cnt10_le _
  have hfo : ∀ x y, fOther G x y ≤ 10 := fun x y => cnt10_le _
  have hb1 : ∀ f, (∀ x y, f x y ≤ 10) → ∀ n a, n ≤ 60 → smN (hbt G b f a) n ≤ 600 := fun f hf n a h => Nat.le_trans (smN_le (hbt_le hf a) n) (by omega)
  have hb2 : ∀ f, (∀ x y, f x y ≤ 10) → hbtS G b f ≤ 36000 := fun f hf => Nat.le_trans (smN_le (fun a => hb1 f hf _ a hn.2) _) (by omega)
  have outer : (0 ≤ b.toInt ∧ b.toInt ≤ 5) → ∀ m a, a + m = nLk G → ∀ l5, V E X RX11 "habit" cX11_habit 6 (some .int) 2 0 0 (QM E X post 0 0) (wG σ G) 0 0 22 [some (.ref (eQ E 48)), some (.int b), some (.int (nI (smN (fun a => smN (hbt G b (fBoth G) a) (nLk G)) a))), some (.int (nI (smN (fun a => smN (hbt G b (fOther G) a) (nLk G)) a))), some (.int (nI a)), l5] [] := by
    intro hbb m
    induction m with
    | zero =>
      intro a ha l5
      rw [show a = nLk G by omega]
      change V _ _ _ _ _ _ _ _ _ _ _ _ _ _ _ [_, _, some (.int (nI (hbtS G b (fBoth G)))), some (.int (nI (hbtS G b (fOther G)))), _, _] _
      have q1 := hb2 _ hfb
      have q2 := hb2 _ hfo
      refine V.iload (i := 4) dX11_habit_22 rfl ?_
      refine V.aload_n (i := 0) dX11_habit_24 rfl rfl ?_
      refine V.mgeti hE dX11_habit_25 fl_X11_131 rfl ?_
      refine V.icmp_geT (tgt := 111) dX11_habit_28 rfl (lpT hn.1 (by omega) (by omega)) ?_
      refine V.iload_n (i := 3) dX11_habit_111 rfl rfl ?_
      refine V.if_ne (tgt := 123) dX11_habit_112 rfl (fun c112 => ?_) (fun c112 => ?_)
      · rw [show (0 : Int32) = nI 0 from rfl, nI_eq (by omega) (by decide)] at c112
        refine V.bipush dX11_habit_123 bc_100 ?_
        refine V.iload_n (i := 2) dX11_habit_125 rfl rfl ?_
        refine V.imul dX11_habit_126 ?_
        refine V.as _ (pk_mul _ _) ?_
        refine V.iload_n (i := 3) dX11_habit_127 rfl rfl ?_
        refine V.idiv dX11_habit_128 (by rw [show (0 : Int32) = nI 0 from rfl, nI_eq (by omega) (by decide)]; exact c112) ?_
        refine V.as _ (pk_div (by omega) (by omega) (by omega)) ?_
        refine V.iret dX11_habit_129 (Nat.le_of_ble_eq_true rfl) (Nat.le_of_ble_eq_true rfl) ?_
        first | exact pr_post ((if_pos hbb).trans (if_pos c112)) hp | exact pr_post ((if_pos hbb).trans (if_neg c112)) hp
      · rw [show (0 : Int32) = nI 0 from rfl, nI_eq (by omega) (by decide)] at c112
        refine V.aload_n (i := 0) dX11_habit_115 rfl rfl ?_
        refine V.iconst dX11_habit_116 ic_2 ?_
        refine V.cq1D hE dX11_habit_117 lk_X11_137 rfl (c_finding hE _ (by decide) ⟨rfl, rfl⟩) (by decide) (by decide) (Nat.le_of_ble_eq_true rfl) (Nat.le_of_ble_eq_true rfl) (Nat.le_of_ble_eq_true rfl) ?_
        refine V.goto (tgt := 129) dX11_habit_120 rfl ?_
        refine V.iret dX11_habit_129 (Nat.le_of_ble_eq_true rfl) (Nat.le_of_ble_eq_true rfl) ?_
        first | exact pr_post ((if_pos hbb).trans (if_pos c112)) hp | exact pr_post ((if_pos hbb).trans (if_neg c112)) hp
    | succ m ih =>
      intro a ha l5
      have inner : ∀ m y, y + m = nLk G → ∀ v2 v3, v2 = nI (smN (fun a => smN (hbt G b (fBoth G) a) (nLk G)) a + smN (hbt G b (fBoth G) a) y) → v3 = nI (smN (fun a => smN (hbt G b (fOther G) a) (nLk G)) a + smN (hbt G b (fOther G) a) y) → V E X RX11 "habit" cX11_habit 6 (some .int) 2 0 0 (QM E X post 0 0) (wG σ G) 0 0 34 [some (.ref (eQ E 48)), some (.int b), some (.int v2), some (.int v3), some (.int (nI a)), some (.int (nI y))] [] := by
        intro m
        induction m with
        | zero =>
          intro y hy v2 v3 h2 h3
          rw [show y = nLk G by omega] at h2 h3
          refine V.iload (i := 5) dX11_habit_34 rfl ?_
          refine V.aload_n (i := 0) dX11_habit_36 rfl rfl ?_
          refine V.mgeti hE dX11_habit_37 fl_X11_131 rfl ?_
          refine V.icmp_geT (tgt := 105) dX11_habit_40 rfl (lpT hn.1 (by omega) (by omega)) ?_
          refine V.iinc4 (by decide) dX11_habit_105 (inc1 _) ?_
          refine V.goto (tgt := 22) dX11_habit_108 rfl ?_
          rw [h2, h3]
          exact ih (a + 1) (by omega) _
        | succ m ih2 =>
          intro y hy v2 v3 h2 h3
          have fi := hI.lkF a (by omega)
          have fj := hI.lkF y (by omega)
          refine V.iload (i := 5) dX11_habit_34 rfl ?_
          refine V.aload_n (i := 0) dX11_habit_36 rfl rfl ?_
          refine V.mgeti hE dX11_habit_37 fl_X11_131 rfl ?_
          refine V.icmp_geF (tgt := 105) dX11_habit_40 rfl (lpF hn.1 (by omega) (by omega)) ?_
          refine V.aload_n (i := 0) dX11_habit_43 rfl rfl ?_
          refine V.mgeta hE dX11_habit_44 fl_X11_71 rfl ?_
          refine V.iload (i := 4) dX11_habit_47 rfl ?_
          refine V.miald hE dX11_habit_49 rfl rfl rfl (show _ < 60 from (by omega)) ?_
          refine V.iload_n (i := 1) dX11_habit_50 rfl rfl ?_
          refine V.icmp_ne (tgt := 99) dX11_habit_51 rfl (fun c51 => ?_) (fun c51 => ?_)
          · refine V.iinc5 (by decide) dX11_habit_99 (inc1 _) ?_
            refine V.goto (tgt := 34) dX11_habit_102 rfl ?_
            first | exact ih2 (y + 1) (by omega) _ _ (by rw [h2, nI_add, smN, hbt, if_pos ⟨c51, c62⟩, Nat.add_assoc]; rfl) (by rw [h3, nI_add, smN, hbt, if_pos ⟨c51, c62⟩, Nat.add_assoc]; rfl) | exact ih2 (y + 1) (by omega) _ _ (by rw [h2, smN, hbt, if_neg (fun z => c51 z.1), Nat.add_zero]) (by rw [h3, smN, hbt, if_neg (fun z => c51 z.1), Nat.add_zero]) | exact ih2 (y + 1) (by omega) _ _ (by rw [h2, smN, hbt, if_neg (fun z => c62 z.2), Nat.add_zero]) (by rw [h3, smN, hbt, if_neg (fun z => c62 z.2), Nat.add_zero])
          · refine V.aload_n (i := 0) dX11_habit_54 rfl rfl ?_
            refine V.iload (i := 4) dX11_habit_55 rfl ?_
            refine V.iload (i := 5) dX11_habit_57 rfl ?_
            refine V.cq2D hE dX11_habit_59 lk_X11_258 rfl (c_areDoubles hE a y (by omega) (by omega) ⟨rfl, rfl⟩) (by decide) (by decide) (Nat.le_of_ble_eq_true rfl) (Nat.le_of_ble_eq_true rfl) (Nat.le_of_ble_eq_true rfl) ?_
            refine V.ifb_eq (tgt := 99) dX11_habit_62 rfl (fun c62 => ?_) (fun c62 => ?_)
            · refine V.iinc5 (by decide) dX11_habit_99 (inc1 _) ?_
              refine V.goto (tgt := 34) dX11_habit_102 rfl ?_
              first | exact ih2 (y + 1) (by omega) _ _ (by rw [h2, nI_add, smN, hbt, if_pos ⟨c51, c62⟩, Nat.add_assoc]; rfl) (by rw [h3, nI_add, smN, hbt, if_pos ⟨c51, c62⟩, Nat.add_assoc]; rfl) | exact ih2 (y + 1) (by omega) _ _ (by rw [h2, smN, hbt, if_neg (fun z => c51 z.1), Nat.add_zero]) (by rw [h3, smN, hbt, if_neg (fun z => c51 z.1), Nat.add_zero]) | exact ih2 (y + 1) (by omega) _ _ (by rw [h2, smN, hbt, if_neg (fun z => c62 z.2), Nat.add_zero]) (by rw [h3, smN, hbt, if_neg (fun z => c62 z.2), Nat.add_zero])
            · refine V.iload_n (i := 2) dX11_habit_65 rfl rfl ?_
              refine V.aload_n (i := 0) dX11_habit_66 rfl rfl ?_
              refine V.mgeta hE dX11_habit_67 fl_X11_77 rfl ?_
              refine V.iload (i := 4) dX11_habit_70 rfl ?_
              refine V.miald hE dX11_habit_72 rfl rfl rfl (show _ < 60 from (by omega)) ?_
              refine V.aload_n (i := 0) dX11_habit_73 rfl rfl ?_
              refine V.mgeta hE dX11_habit_74 fl_X11_77 rfl ?_
              refine V.iload (i := 5) dX11_habit_77 rfl ?_
              refine V.miald hE dX11_habit_79 rfl rfl rfl (show _ < 60 from (by omega)) ?_
              refine V.iand dX11_habit_80 ?_
              refine V.as (nI (gN G 30 a &&& gN G 30 y)) (by rw [fi.1, fj.1, fa_and]) ?_
              refine V.cs1D dX11_habit_81 lk_X11_261 (c_ones _ (Nat.lt_of_le_of_lt Nat.and_le_left (by omega)) ⟨rfl, rfl⟩) (by decide) (by decide) (Nat.le_of_ble_eq_true rfl) (Nat.le_of_ble_eq_true rfl) (Nat.le_of_ble_eq_true rfl) ?_
              refine V.iadd dX11_habit_84 ?_
              refine V.istore_n2 (by decide) dX11_habit_85 ?_
              refine V.iload_n (i := 3) dX11_habit_86 rfl rfl ?_
              refine V.aload_n (i := 0) dX11_habit_87 rfl rfl ?_
              refine V.mgeta hE dX11_habit_88 fl_X11_77 rfl ?_
              refine V.iload (i := 5) dX11_habit_91 rfl ?_
              refine V.miald hE dX11_habit_93 rfl rfl rfl (show _ < 60 from (by omega)) ?_
              refine V.as _ fj.1 ?_
              refine V.cs1D dX11_habit_94 lk_X11_261 (c_ones _ (by omega) ⟨rfl, rfl⟩) (by decide) (by decide) (Nat.le_of_ble_eq_true rfl) (Nat.le_of_ble_eq_true rfl) (Nat.le_of_ble_eq_true rfl) ?_
              refine V.iadd dX11_habit_97 ?_
              refine V.istore_n3 (by decide) dX11_habit_98 ?_
              refine V.iinc5 (by decide) dX11_habit_99 (inc1 _) ?_
              refine V.goto (tgt := 34) dX11_habit_102 rfl ?_
              first | exact ih2 (y + 1) (by omega) _ _ (by rw [h2, nI_add, smN, hbt, if_pos ⟨c51, c62⟩, Nat.add_assoc]; rfl) (by rw [h3, nI_add, smN, hbt, if_pos ⟨c51, c62⟩, Nat.add_assoc]; rfl) | exact ih2 (y + 1) (by omega) _ _ (by rw [h2, smN, hbt, if_neg (fun z => c51 z.1), Nat.add_zero]) (by rw [h3, smN, hbt, if_neg (fun z => c51 z.1), Nat.add_zero]) | exact ih2 (y + 1) (by omega) _ _ (by rw [h2, smN, hbt, if_neg (fun z => c62 z.2), Nat.add_zero]) (by rw [h3, smN, hbt, if_neg (fun z => c62 z.2), Nat.add_zero])
      refine V.iload (i := 4) dX11_habit_22 rfl ?_
      refine V.aload_n (i := 0) dX11_habit_24 rfl rfl ?_
      refine V.mgeti hE dX11_habit_25 fl_X11_131 rfl ?_
      refine V.icmp_geF (tgt := 111) dX11_habit_28 rfl (lpF hn.1 (by omega) (by omega)) ?_
      refine V.iconst dX11_habit_31 ic_0 ?_
      refine V.istore5 (by decide) dX11_habit_32 ?_
      exact inner (nLk G) 0 (by omega) _ _ rfl rfl
  refine V.iload_n (i := 1) dX11_habit_0 rfl rfl ?_
  refine V.iconst dX11_habit_1 ic_0 ?_
  refine V.iconst dX11_habit_2 ic_5 ?_
  refine V.cs3D dX11_habit_3 lk_X11_124 (c_isInN _ 0 5 (by decide) (by decide) ⟨rfl, rfl⟩) (by decide) (by decide) (Nat.le_of_ble_eq_true rfl) (Nat.le_of_ble_eq_true rfl) (Nat.le_of_ble_eq_true rfl) ?_
  refine V.ifb_ne (tgt := 15) dX11_habit_6 rfl (fun c6 => ?_) (fun c6 => ?_)
  · refine V.iconst dX11_habit_15 ic_0 ?_
    refine V.istore_n2 (by decide) dX11_habit_16 ?_
    refine V.iconst dX11_habit_17 ic_0 ?_
    refine V.istore_n3 (by decide) dX11_habit_18 ?_
    refine V.iconst dX11_habit_19 ic_0 ?_
    refine V.istore4 (by decide) dX11_habit_20 ?_
    exact outer (by omega) (nLk G) 0 (by omega) _
  · refine V.aload_n (i := 0) dX11_habit_9 rfl rfl ?_
    refine V.iconst dX11_habit_10 ic_1 ?_
    refine V.cq1D hE dX11_habit_11 lk_X11_137 rfl (c_finding hE _ (by decide) ⟨rfl, rfl⟩) (by decide) (by decide) (Nat.le_of_ble_eq_true rfl) (Nat.le_of_ble_eq_true rfl) (Nat.le_of_ble_eq_true rfl) ?_
    refine V.iret dX11_habit_14 (Nat.le_of_ble_eq_true rfl) (Nat.le_of_ble_eq_true rfl) ?_
    exact pr_post (if_neg (by omega)) hp
end REF11

