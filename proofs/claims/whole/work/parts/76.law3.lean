/-! ===== the law: its loop, its beginning ===== -/
section LAW3
variable {E : VE} {X : VX} {mn : String} {Q : State → Prop} {σ : Sg} {nc ns : Nat} {b L x n : Nat} {xs : Nat → Int32} {P : PT} {G : GS}
set_option maxRecDepth 100000 in
theorem L_case {k : Nat} (hk : k < 32) (hE : eF E = true) (hX : va_X b L xs (xS X) (eH E)) (hb : b < (eH E).size) (hL : L ≤ 2048) (hn : n + 4 ≤ L) (hZ : LZ x P G σ) (hc : nc + 8 ≤ 600000) (hs : ns + 64 ≤ 7302250)
    (kk : ∀ σ2 P2 G2, LZ x P2 G2 σ2 → V E X RL mn cL_law 4 ret 30 600000 7302250 Q σ2 (nc + 8) (ns + 64) 1142 [some (.ref b), some (.ref x), some (.ref (eQ E 48)), some (.int (nI n))] []) : V E X RL mn cL_law 4 ret 30 600000 7302250 Q σ nc ns 32 [some (.ref b), some (.ref x), some (.ref (eQ E 48)), some (.int (nI n))] [.int (nI k)] := by
  match k, hk with
  | 0, _ => exact V.tableIn (tgt := 176) dL_law_32 (by decide) (by decide) rfl rfl (L_ship hE hX hb hL hn hZ hc hs kk)
  | 1, _ => exact V.tableIn (tgt := 219) dL_law_32 (by decide) (by decide) rfl rfl (L_as hE hX hb hL hn hZ hc hs kk)
  | 2, _ => exact V.tableIn (tgt := 252) dL_law_32 (by decide) (by decide) rfl rfl (L_change hE hX hb hL hn hZ hc hs kk)
  | 3, _ => exact V.tableIn (tgt := 295) dL_law_32 (by decide) (by decide) rfl rfl (L_has hE hX hb hL hn hZ hc hs kk)
  | 4, _ => exact V.tableIn (tgt := 338) dL_law_32 (by decide) (by decide) rfl rfl (L_named hE hX hb hL hn hZ hc hs kk)
  | 5, _ => exact V.tableIn (tgt := 371) dL_law_32 (by decide) (by decide) rfl rfl (L_one hE hX hb hL hn hZ hc hs kk)
  | 6, _ => exact V.tableIn (tgt := 404) dL_law_32 (by decide) (by decide) rfl rfl (L_fleet hE hX hb hL hn hZ hc hs kk)
  | 7, _ => exact V.tableIn (tgt := 437) dL_law_32 (by decide) (by decide) rfl rfl (L_day hE hX hb hL hn hZ hc hs kk)
  | 8, _ => exact V.tableIn (tgt := 460) dL_law_32 (by decide) (by decide) rfl rfl (L_call hE hX hb hL hn hZ hc hs kk)
  | 9, _ => exact V.tableIn (tgt := 493) dL_law_32 (by decide) (by decide) rfl rfl (L_leave hE hX hb hL hn hZ hc hs kk)
  | 10, _ => exact V.tableIn (tgt := 516) dL_law_32 (by decide) (by decide) rfl rfl (L_of hE hX hb hL hn hZ hc hs kk)
  | 11, _ => exact V.tableIn (tgt := 549) dL_law_32 (by decide) (by decide) rfl rfl (L_feed hE hX hb hL hn hZ hc hs kk)
  | 12, _ => exact V.tableIn (tgt := 572) dL_law_32 (by decide) (by decide) rfl rfl (L_treaty hE hX hb hL hn hZ hc hs kk)
  | 13, _ => exact V.tableIn (tgt := 595) dL_law_32 (by decide) (by decide) rfl rfl (L_says hE hX hb hL hn hZ hc hs kk)
  | 14, _ => exact V.tableIn (tgt := 628) dL_law_32 (by decide) (by decide) rfl rfl (L_look hE hX hb hL hn hZ hc hs kk)
  | 15, _ => exact V.tableIn (tgt := 671) dL_law_32 (by decide) (by decide) rfl rfl (L_told hE hX hb hL hn hZ hc hs kk)
  | 16, _ => exact V.tableIn (tgt := 704) dL_law_32 (by decide) (by decide) rfl rfl (L_share hE hX hb hL hn hZ hc hs kk)
  | 17, _ => exact V.tableIn (tgt := 747) dL_law_32 (by decide) (by decide) rfl rfl (L_risk hE hX hb hL hn hZ hc hs kk)
  | 18, _ => exact V.tableIn (tgt := 770) dL_law_32 (by decide) (by decide) rfl rfl (L_board hE hX hb hL hn hZ hc hs kk)
  | 19, _ => exact V.tableIn (tgt := 813) dL_law_32 (by decide) (by decide) rfl rfl (L_rest hE hX hb hL hn hZ hc hs kk)
  | 20, _ => exact V.tableIn (tgt := 846) dL_law_32 (by decide) (by decide) rfl rfl (L_tired hE hX hb hL hn hZ hc hs kk)
  | 21, _ => exact V.tableIn (tgt := 879) dL_law_32 (by decide) (by decide) rfl rfl (L_months hE hX hb hL hn hZ hc hs kk)
  | 22, _ => exact V.tableIn (tgt := 902) dL_law_32 (by decide) (by decide) rfl rfl (L_banned hE hX hb hL hn hZ hc hs kk)
  | 23, _ => exact V.tableIn (tgt := 935) dL_law_32 (by decide) (by decide) rfl rfl (L_lift hE hX hb hL hn hZ hc hs kk)
  | 24, _ => exact V.tableIn (tgt := 958) dL_law_32 (by decide) (by decide) rfl rfl (L_were hE hX hb hL hn hZ hc hs kk)
  | 25, _ => exact V.tableIn (tgt := 991) dL_law_32 (by decide) (by decide) rfl rfl (L_habit hE hX hb hL hn hZ hc hs kk)
  | 26, _ => exact V.tableIn (tgt := 1014) dL_law_32 (by decide) (by decide) rfl rfl (L_draw hE hX hb hL hn hZ hc hs kk)
  | 27, _ => exact V.tableIn (tgt := 1047) dL_law_32 (by decide) (by decide) rfl rfl (L_rate hE hX hb hL hn hZ hc hs kk)
  | 28, _ => exact V.tableIn (tgt := 1060) dL_law_32 (by decide) (by decide) rfl rfl (L_tell hE hX hb hL hn hZ hc hs kk)
  | 29, _ => exact V.tableIn (tgt := 1083) dL_law_32 (by decide) (by decide) rfl rfl (L_check hE hX hb hL hn hZ hc hs kk)
  | 30, _ => exact V.tableIn (tgt := 1096) dL_law_32 (by decide) (by decide) rfl rfl (L_count hE hX hb hL hn hZ hc hs kk)
  | 31, _ => exact V.tableIn (tgt := 1119) dL_law_32 (by decide) (by decide) rfl rfl (L_found hE hX hb hL hn hZ hc hs kk)
  | k + 32, h => exact absurd h (by omega)
set_option maxRecDepth 100000 in
theorem L_loop (hE : eF E = true) (hX : va_X b L xs (xS X) (eH E)) (hb : b < (eH E).size) (hL : L ≤ 2048)
    (hEnd : ∀ σ nc ns ls, nc ≤ 600000 → ns ≤ 7302250 → V E X RL mn cL_law 4 ret 30 600000 7302250 Q σ nc ns 1149 ls [.int 1]) :
    ∀ (r n : Nat) (σ : Sg) (P : PT) (G : GS) (nc ns : Nat), LZ x P G σ → L < n + 4 * r + 4 → n ≤ 2052 → nc + 8 * r ≤ 600000 → ns + 64 * r ≤ 7302250 → V E X RL mn cL_law 4 ret 30 600000 7302250 Q σ nc ns 18 [some (.ref b), some (.ref x), some (.ref (eQ E 48)), some (.int (nI n))] [] := by
  intro r
  induction r with
  | zero =>
    intro n σ P G nc ns hZ hr hn hc hs
    refine V.iload_n (i := 3) dL_law_18 rfl rfl ?_
    refine V.aload_n (i := 0) dL_law_19 rfl rfl ?_
    refine V.slen hX hb dL_law_20 ?_
    refine V.iconst (v := 4) dL_law_21 rfl ?_
    refine V.isub dL_law_22 ?_
    refine V.icmp_gtT dL_law_23 rfl ((len4 hL (by omega)).mpr (by omega)) ?_
    refine V.iconst (v := 1) dL_law_1148 rfl ?_
    exact hEnd _ _ _ _ (by omega) (by omega)
  | succ r ih =>
    intro n σ P G nc ns hZ hr hn hc hs
    refine V.iload_n (i := 3) dL_law_18 rfl rfl ?_
    refine V.aload_n (i := 0) dL_law_19 rfl rfl ?_
    refine V.slen hX hb dL_law_20 ?_
    refine V.iconst (v := 4) dL_law_21 rfl ?_
    refine V.isub dL_law_22 ?_
    refine V.icmp_gt dL_law_23 rfl (fun h => ?_) (fun h => ?_)
    · refine V.iconst (v := 1) dL_law_1148 rfl ?_
      exact hEnd _ _ _ _ (by omega) (by omega)
    · have hn4 : n + 4 ≤ L := Nat.not_lt.mp (fun z => h ((len4 hL (by omega)).mpr z))
      refine V.aload_n (i := 0) dL_law_26 rfl rfl ?_
      refine V.iload_n (i := 3) dL_law_27 rfl rfl ?_
      refine V.sld (j := n) hX hb dL_law_28 rfl (by omega) hL ?_
      refine V.bipush (v := 31) dL_law_29 rfl ?_
      refine V.iand dL_law_31 ?_
      obtain ⟨k, hk, e⟩ := and31 (xs n)
      refine V.as (nI k) e ?_
      refine L_case hk hE hX hb hL hn4 hZ (by omega) (by omega) (fun σ2 P2 G2 hZ2 => ?_)
      refine V.inc (i := 3) (y := nI (n + 4)) (by decide) dL_law_1142 rfl (nI_add n 4) ?_
      refine V.goto dL_law_1145 (tgt := 18) rfl ?_
      exact ih (n + 4) σ2 P2 G2 (nc + 8) (ns + 64) hZ2 (by omega) (by omega) (by omega) (by omega)
set_option maxRecDepth 100000 in
theorem L_start (hX : va_X b L xs (xS X) (eH E)) (hb : b < (eH E).size) (hL : L ≤ 2048)
    (hEnd : ∀ m a0 σ nc ns ls, nc ≤ 600000 → ns ≤ 7302250 → V (mE E m a0) X RL mn cL_law 4 ret 30 600000 7302250 Q σ nc ns 1149 ls [.int 1]) :
    V E X RL mn cL_law 4 ret 30 600000 7302250 Q σ 0 0 0 [some (.ref b), none, none, none] [] := by
  refine V.lt (fun hlt => ?_)
  refine V.new (ci := 10) dL_law_0 (by decide) wk_L_7 wx_X10 wn_X10 (by decide) (by decide) ?_
  refine V.dup dL_law_3 rfl ?_
  refine V.ci0U dL_law_4 lk_L_9 (k_init (σ := wN σ 11) (x := sN σ) (if_pos rfl) (Nat.lt_succ_self _) ⟨rfl, rfl⟩) (by decide) (by decide) (Nat.le_of_ble_eq_true rfl) (Nat.le_of_ble_eq_true rfl) (Nat.le_of_ble_eq_true rfl) ?_
  refine V.sts (σ' := c0S σ) rfl ?_
  refine V.store_a (i := 1) (len := 1) (by decide) (Or.inr ⟨_, rfl⟩) (Or.inl ⟨1, rfl, dL_law_7, rfl⟩) ?_
  refine V.lt (fun hlt2 => ?_)
  refine V.new (ci := 11) dL_law_8 (by decide) wk_L_10 wx_X11 wn_X11 (by decide) (by decide) ?_
  refine V.dup dL_law_11 rfl ?_
  refine V.ci0v dL_law_12 lk_L_12 (c_init (σ := wN (c0S σ) 12) (m := sN (c0S σ)) (if_pos rfl) (Nat.lt_succ_self _) (fun τ h => ⟨rfl, h⟩)) (by decide) (by decide) (Nat.le_of_ble_eq_true rfl) (Nat.le_of_ble_eq_true rfl) (Nat.le_of_ble_eq_true rfl) (fun τ h => ?_)
  refine V.store_a (i := 2) (len := 1) (by decide) (Or.inr ⟨_, rfl⟩) (Or.inl ⟨2, rfl, dL_law_15, rfl⟩) ?_
  refine V.switch h (if_pos rfl) rfl (fun k => if_pos ⟨rfl, rfl⟩) ?_
  refine V.iconst (v := nI 0) dL_law_16 rfl ?_
  refine V.store_i (i := 3) (len := 1) (by decide) (Or.inl ⟨3, rfl, dL_law_17, rfl⟩) ?_
  refine V.widen (k := 100) (n := 4000) (Nat.le_of_ble_eq_true rfl) (Nat.le_of_ble_eq_true rfl) ?_
  exact L_loop (E := mE E (sN (c0S σ)) (sN (wN (c0S σ) 12))) (x := sN σ) rfl hX hb hL (hEnd _ _) 512 0 _ (P0 (sN σ)) G0 100 4000 ⟨inv_G0, MI.rp c0_rp hlt2 h, rfl⟩ (by omega) (by omega) (by omega) (by omega)
end LAW3
