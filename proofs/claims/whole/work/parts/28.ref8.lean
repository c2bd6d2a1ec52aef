/-! ===== the model: fleets, risk ===== -/
theorem testBit_and1 {n k : Nat} (hn : n < 2 ^ 31) (hk : k < 31) : nI n >>> (nI k &&& 31) &&& nI 1 = nI (if n.testBit k then 1 else 0) := by
  rw [pk_shrN hn (nI k &&& 31) k (smod31 k (by omega)), fa_and, Nat.and_one_is_mod, Nat.testBit_eq_decide_div_mod_eq]
  congr 1
  by_cases h : n / 2 ^ k % 2 = 1
  · simp [h]
  · simp [h]; omega
theorem orBit {a k : Nat} (b : Nat) (h : a < 2 ^ k) : nI a ||| nI (b * 2 ^ k) = nI (a + b * 2 ^ k) := by
  have := fa_or_sum (a := a) (k := k) b h
  rw [fa_or] at this ⊢
  rw [Nat.or_comm, Nat.mul_comm b, Nat.add_comm]
  exact this
theorem flb_lt (p : Nat → Bool) : ∀ n, flb p n < 2 ^ n
  | 0 => Nat.zero_lt_one
  | n + 1 => by
    have := flb_lt p n
    unfold flb
    rw [Nat.pow_succ]
    split <;> omega
theorem pow_le16 {n : Nat} (h : n ≤ 16) : 2 ^ n ≤ 65536 := Nat.le_trans (Nat.pow_le_pow_right (by decide) h) (by decide)
theorem pow_le10 {n : Nat} (h : n ≤ 10) : 2 ^ n ≤ 1024 := Nat.le_trans (Nat.pow_le_pow_right (by decide) h) (by decide)
theorem onesStep_lt {a b s : Nat} (ha : a < 10) (hb : b < 10) (hs : s < 1024) : onesStep a b s < 1024 := by
  unfold onesStep
  have h1 : 2 ^ a < 2 ^ 10 := Nat.pow_lt_pow_right (by decide) ha
  have h2 : 2 ^ b < 2 ^ 10 := Nat.pow_lt_pow_right (by decide) hb
  split
  · exact hs
  · exact Nat.or_lt_two_pow (n := 10) hs (Nat.or_lt_two_pow h1 h2)
theorem hadO {G : GS} (hI : Inv G) {i : Nat} (hi : i < nSh G) (on : Int32) : ∀ c, c ≤ nCh G → hadK G i 2 on c = nI (tn (hadK G i 2 on c)) ∧ tn (hadK G i 2 on c) < 10
  | 0, _ => hI.came i hi
  | c + 1, hc => by
    have h16 := hI.shN.2
    unfold hadK
    split
    · rename_i h
      exact hI.chg c (by omega) i (by omega) h.1
    · exact hadO hI hi on c (by omega)
theorem onesRow_lt {G : GS} (hI : Inv G) {s : Nat} (hs : s < 1024) : ∀ w, w ≤ nWd G → onesRow G w s < 1024
  | 0, _ => hs
  | w + 1, hw => onesStep_lt (hI.wd w (by omega)).1.2 (hI.wd w (by omega)).2.2 (onesRow_lt hI hs w (by omega))
theorem onesIt_lt {G : GS} (hI : Inv G) {s : Nat} (hs : s < 1024) : ∀ k, onesIt G k s < 1024
  | 0 => hs
  | k + 1 => onesRow_lt hI (onesIt_lt hI hs k) _ (Nat.le_refl _)
section REF8
variable {E : VE} {σ : Sg} {G : GS} {post : Option Value → Sg → Prop}
set_option maxRecDepth 100000 in
theorem c_onesOf (hE : eF E = true) (o : Nat) (ho : o < 10) (hI : Inv G) (hp : post (some (.int (nI (onesN G o)))) (wG σ G)) : MX11_onesOf E 1 0 0 [.ref (eQ E 48), .int (nI o)] (wG σ G) post := by
  refine MA.of RX11 "onesOf" [some (.ref (eQ E 48)), some (.int (nI o)), none, none, none, none] rfl rfl rfl (catAll rfl) (Nat.le_of_ble_eq_true rfl) rfl (fun X => ?_)
  have hn := hI.wdN
  have outer : ∀ m k, k + m = 10 → (∀ l4 l5, V E X RX11 "onesOf" cX11_onesOf 6 (some .int) 1 0 0 (QM E X post 0 0) (wG σ G) 0 0 6 [some (.ref (eQ E 48)), some (.int (nI o)), some (.int (nI (onesIt G k (2 ^ o)))), some (.int (nI k)), l4, l5] []) := by
    have hs0 : 2 ^ o < 1024 := Nat.pow_lt_pow_right (a := 2) (by decide) ho
    intro m
    induction m with
    | zero =>
      intro k hk l4 l5
      refine V.iload_n (i := 3) dX11_onesOf_6 rfl rfl ?_
      refine V.bipush dX11_onesOf_7 bc_10 ?_
      refine V.icmp_geT (tgt := 73) dX11_onesOf_9 rfl (nI_le (by omega) (by omega)) ?_
      refine V.iload_n (i := 2) dX11_onesOf_73 rfl rfl ?_
      refine V.iret dX11_onesOf_74 (Nat.le_of_ble_eq_true rfl) (Nat.le_of_ble_eq_true rfl) ?_
      exact i_post (by rw [onesN, show k = 10 by omega]) hp
    | succ m ih =>
      intro k hk l4 l5
      have hk10 := onesIt_lt hI hs0 k
      have inner : ∀ m w, w + m = nWd G → ∀ l5, V E X RX11 "onesOf" cX11_onesOf 6 (some .int) 1 0 0 (QM E X post 0 0) (wG σ G) 0 0 15 [some (.ref (eQ E 48)), some (.int (nI o)), some (.int (nI (onesRow G w (onesIt G k (2 ^ o))))), some (.int (nI k)), some (.int (nI w)), l5] [] := by
        intro m
        induction m with
        | zero =>
          intro w hw l5
          refine V.iload (i := 4) dX11_onesOf_15 rfl ?_
          refine V.aload_n (i := 0) dX11_onesOf_17 rfl rfl ?_
          refine V.mgeti hE dX11_onesOf_18 fl_X11_162 rfl ?_
          refine V.icmp_geT (tgt := 67) dX11_onesOf_21 rfl (lpT hn.1 (by omega) (by omega)) ?_
          refine V.iinc3 (by decide) dX11_onesOf_67 (inc1 _) ?_
          refine V.goto (tgt := 6) dX11_onesOf_70 rfl ?_
          rw [show w = nWd G by omega]
          exact ih (k + 1) (by omega) _ _
        | succ m ih2 =>
          intro w hw l5
          have hwd := hI.wd w (by omega)
          have hrl := onesRow_lt hI hk10 w (by omega)
          have hb : onesRow G w (onesIt G k (2 ^ o)) &&& (2 ^ gN G 11 w ||| 2 ^ gN G 12 w) < 2 ^ 31 := Nat.lt_of_le_of_lt Nat.and_le_left (by omega)
          refine V.iload (i := 4) dX11_onesOf_15 rfl ?_
          refine V.aload_n (i := 0) dX11_onesOf_17 rfl rfl ?_
          refine V.mgeti hE dX11_onesOf_18 fl_X11_162 rfl ?_
          refine V.icmp_geF (tgt := 67) dX11_onesOf_21 rfl (lpF hn.1 (by omega) (by omega)) ?_
          refine V.iconst dX11_onesOf_24 ic_1 ?_
          refine V.aload_n (i := 0) dX11_onesOf_25 rfl rfl ?_
          refine V.mgeta hE dX11_onesOf_26 fl_X11_31 rfl ?_
          refine V.iload (i := 4) dX11_onesOf_29 rfl ?_
          refine V.miald hE dX11_onesOf_31 rfl rfl rfl (show _ < 12 from (by omega)) ?_
          refine V.ishl dX11_onesOf_32 ?_
          refine V.as (nI (2 ^ gN G 11 w)) (by rw [hwd.1.1]; exact sh1 (by omega)) ?_
          refine V.iconst dX11_onesOf_33 ic_1 ?_
          refine V.aload_n (i := 0) dX11_onesOf_34 rfl rfl ?_
          refine V.mgeta hE dX11_onesOf_35 fl_X11_34 rfl ?_
          refine V.iload (i := 4) dX11_onesOf_38 rfl ?_
          refine V.miald hE dX11_onesOf_40 rfl rfl rfl (show _ < 12 from (by omega)) ?_
          refine V.ishl dX11_onesOf_41 ?_
          refine V.as (nI (2 ^ gN G 12 w)) (by rw [hwd.2.1]; exact sh1 (by omega)) ?_
          refine V.ior dX11_onesOf_42 ?_
          refine V.as _ (fa_or _ _) ?_
          refine V.istore5 (by decide) dX11_onesOf_43 ?_
          refine V.iload_n (i := 2) dX11_onesOf_45 rfl rfl ?_
          refine V.iload_n (i := 2) dX11_onesOf_46 rfl rfl ?_
          refine V.iload (i := 5) dX11_onesOf_47 rfl ?_
          refine V.iand dX11_onesOf_49 ?_
          refine V.as _ (fa_and _ _) ?_
          refine V.if_eq (tgt := 58) dX11_onesOf_50 rfl (fun c50 => ?_) (fun c50 => ?_)
          · rw [show (0 : Int32) = nI 0 from rfl, nI_eq hb (by decide)] at c50
            refine V.iconst dX11_onesOf_58 ic_0 ?_
            refine V.ior dX11_onesOf_59 ?_
            refine V.as (nI (onesRow G (w + 1) (onesIt G k (2 ^ o)))) (by rw [onesRow, onesStep, fa_or]; first | rw [if_pos c50, Nat.or_zero] | rw [if_neg c50]) ?_
            refine V.istore_n2 (by decide) dX11_onesOf_60 ?_
            refine V.iinc4 (by decide) dX11_onesOf_61 (inc1 _) ?_
            refine V.goto (tgt := 15) dX11_onesOf_64 rfl ?_
            exact ih2 (w + 1) (by omega) _
          · rw [show (0 : Int32) = nI 0 from rfl, nI_eq hb (by decide)] at c50
            refine V.iload (i := 5) dX11_onesOf_53 rfl ?_
            refine V.goto (tgt := 59) dX11_onesOf_55 rfl ?_
            refine V.ior dX11_onesOf_59 ?_
            refine V.as (nI (onesRow G (w + 1) (onesIt G k (2 ^ o)))) (by rw [onesRow, onesStep, fa_or]; first | rw [if_pos c50, Nat.or_zero] | rw [if_neg c50]) ?_
            refine V.istore_n2 (by decide) dX11_onesOf_60 ?_
            refine V.iinc4 (by decide) dX11_onesOf_61 (inc1 _) ?_
            refine V.goto (tgt := 15) dX11_onesOf_64 rfl ?_
            exact ih2 (w + 1) (by omega) _
      refine V.iload_n (i := 3) dX11_onesOf_6 rfl rfl ?_
      refine V.bipush dX11_onesOf_7 bc_10 ?_
      refine V.icmp_geF (tgt := 73) dX11_onesOf_9 rfl (nI_ge (by omega) (by omega)) ?_
      refine V.iconst dX11_onesOf_12 ic_0 ?_
      refine V.istore4 (by decide) dX11_onesOf_13 ?_
      exact inner (nWd G) 0 (by omega) _
  refine V.iconst dX11_onesOf_0 ic_1 ?_
  refine V.iload_n (i := 1) dX11_onesOf_1 rfl rfl ?_
  refine V.ishl dX11_onesOf_2 ?_
  refine V.as _ (sh1 (by omega)) ?_
  refine V.istore_n2 (by decide) dX11_onesOf_3 ?_
  refine V.iconst dX11_onesOf_4 ic_0 ?_
  refine V.istore_n3 (by decide) dX11_onesOf_5 ?_
  exact outer 10 0 rfl _ _
set_option maxRecDepth 100000 in
theorem c_fleetOf (hE : eF E = true) (o : Nat) (on : Int32) (ho : o < 10) (hI : Inv G) (hp : post (some (.int (nI (fleetN G o on)))) (wG σ G)) : MX11_fleetOf E 2 0 0 [.ref (eQ E 48), .int (nI o), .int on] (wG σ G) post := by
  refine MA.of RX11 "fleetOf" [some (.ref (eQ E 48)), some (.int (nI o)), some (.int on), none, none, none] rfl rfl rfl (catAll rfl) (Nat.le_of_ble_eq_true rfl) rfl (fun X => ?_)
  have hn := hI.shN
  have hs0 : 2 ^ o < 1024 := Nat.pow_lt_pow_right (a := 2) (by decide) ho
  have h10 : onesN G o < 1024 := onesIt_lt hI hs0 10
  have loop : ∀ m i, i + m = nSh G → V E X RX11 "fleetOf" cX11_fleetOf 6 (some .int) 2 0 0 (QM E X post 0 0) (wG σ G) 0 0 12 [some (.ref (eQ E 48)), some (.int (nI o)), some (.int on), some (.int (nI (onesN G o))), some (.int (nI (flb (isOne G o on) i))), some (.int (nI i))] [] := by
    intro m
    induction m with
    | zero =>
      intro i hi
      refine V.iload (i := 5) dX11_fleetOf_12 rfl ?_
      refine V.aload_n (i := 0) dX11_fleetOf_14 rfl rfl ?_
      refine V.mgeti hE dX11_fleetOf_15 fl_X11_121 rfl ?_
      refine V.icmp_geT (tgt := 47) dX11_fleetOf_18 rfl (lpT hn.1 (by omega) (by omega)) ?_
      refine V.iload (i := 4) dX11_fleetOf_47 rfl ?_
      refine V.iret dX11_fleetOf_49 (Nat.le_of_ble_eq_true rfl) (Nat.le_of_ble_eq_true rfl) ?_
      exact i_post (by rw [fleetN, show i = nSh G by omega]) hp
    | succ m ih =>
      intro i hi
      have hho := hadO hI (i := i) (by omega) on (nCh G) (Nat.le_refl _)
      change hadOn G i 2 on = nI (tn (hadOn G i 2 on)) ∧ tn (hadOn G i 2 on) < 10 at hho
      have hfl := flb_lt (isOne G o on) i
      have hp16 := pow_le16 (n := i) (by omega)
      refine V.iload (i := 5) dX11_fleetOf_12 rfl ?_
      refine V.aload_n (i := 0) dX11_fleetOf_14 rfl rfl ?_
      refine V.mgeti hE dX11_fleetOf_15 fl_X11_121 rfl ?_
      refine V.icmp_geF (tgt := 47) dX11_fleetOf_18 rfl (lpF hn.1 (by omega) (by omega)) ?_
      refine V.iload (i := 4) dX11_fleetOf_21 rfl ?_
      refine V.iload_n (i := 3) dX11_fleetOf_23 rfl rfl ?_
      refine V.aload_n (i := 0) dX11_fleetOf_24 rfl rfl ?_
      refine V.iload (i := 5) dX11_fleetOf_25 rfl ?_
      refine V.iconst dX11_fleetOf_27 ic_2 ?_
      refine V.iload_n (i := 2) dX11_fleetOf_28 rfl rfl ?_
      refine V.cq3D hE dX11_fleetOf_29 lk_X11_155 rfl (c_hadOn hE i 2 on (by omega) (by decide) hI ⟨rfl, rfl⟩) (by decide) (by decide) (Nat.le_of_ble_eq_true rfl) (Nat.le_of_ble_eq_true rfl) (Nat.le_of_ble_eq_true rfl) ?_
      refine V.ishr dX11_fleetOf_32 ?_
      refine V.iconst dX11_fleetOf_33 ic_1 ?_
      refine V.iand dX11_fleetOf_34 ?_
      refine V.as (nI (if isOne G o on i then 1 else 0)) (by rw [hho.1, testBit_and1 (by omega) (by omega)]; rfl) ?_
      refine V.iload (i := 5) dX11_fleetOf_35 rfl ?_
      refine V.ishl dX11_fleetOf_37 ?_
      refine V.as (nI ((if isOne G o on i then 1 else 0) * 2 ^ i)) (pk_shlN _ i (smod31 i (by omega)) (by split <;> omega)) ?_
      refine V.ior dX11_fleetOf_38 ?_
      refine V.as (nI (flb (isOne G o on) (i + 1))) (by rw [orBit _ hfl, flb]; congr 2; split <;> simp) ?_
      refine V.istore4 (by decide) dX11_fleetOf_39 ?_
      refine V.iinc5 (by decide) dX11_fleetOf_41 (inc1 _) ?_
      refine V.goto (tgt := 12) dX11_fleetOf_44 rfl ?_
      exact ih (i + 1) (by omega)
  refine V.aload_n (i := 0) dX11_fleetOf_0 rfl rfl ?_
  refine V.iload_n (i := 1) dX11_fleetOf_1 rfl rfl ?_
  refine V.cq1D hE dX11_fleetOf_2 lk_X11_165 rfl (c_onesOf hE o ho hI ⟨rfl, rfl⟩) (by decide) (by decide) (Nat.le_of_ble_eq_true rfl) (Nat.le_of_ble_eq_true rfl) (Nat.le_of_ble_eq_true rfl) ?_
  refine V.istore_n3 (by decide) dX11_fleetOf_5 ?_
  refine V.iconst dX11_fleetOf_6 ic_0 ?_
  refine V.istore4 (by decide) dX11_fleetOf_7 ?_
  refine V.iconst dX11_fleetOf_9 ic_0 ?_
  refine V.istore5 (by decide) dX11_fleetOf_10 ?_
  exact loop (nSh G) 0 (by omega)
set_option maxRecDepth 100000 in
theorem c_fleet (hE : eF E = true) (o on : Int32) (hI : Inv G) (hp : post (some (.int (s_fleet G o on).1)) (wG σ (s_fleet G o on).2)) : MX11_fleet E 3 0 0 [.ref (eQ E 48), .int o, .int on] (wG σ G) post := by
  refine MA.of RX11 "fleet" [some (.ref (eQ E 48)), some (.int o), some (.int on)] rfl rfl rfl (catAll rfl) (Nat.le_of_ble_eq_true rfl) rfl (fun X => ?_)
  refine V.iload_n (i := 1) dX11_fleet_0 rfl rfl ?_
  refine V.iconst dX11_fleet_1 ic_0 ?_
  refine V.bipush dX11_fleet_2 bc_9 ?_
  refine V.cs3D dX11_fleet_4 lk_X11_124 (c_isInN _ 0 9 (by decide) (by decide) ⟨rfl, rfl⟩) (by decide) (by decide) (Nat.le_of_ble_eq_true rfl) (Nat.le_of_ble_eq_true rfl) (Nat.le_of_ble_eq_true rfl) ?_
  refine V.ifb_eq (tgt := 17) dX11_fleet_7 rfl (fun c7 => ?_) (fun c7 => ?_)
  · refine V.aload_n (i := 0) dX11_fleet_17 rfl rfl ?_
    refine V.iconst dX11_fleet_18 ic_1 ?_
    refine V.cq1D hE dX11_fleet_19 lk_X11_137 rfl (c_finding hE _ (by decide) ⟨rfl, rfl⟩) (by decide) (by decide) (Nat.le_of_ble_eq_true rfl) (Nat.le_of_ble_eq_true rfl) (Nat.le_of_ble_eq_true rfl) ?_
    refine V.iret dX11_fleet_22 (Nat.le_of_ble_eq_true rfl) (Nat.le_of_ble_eq_true rfl) ?_
    exact pr_post (if_neg (by omega)) hp
  · refine V.iload_n (i := 2) dX11_fleet_10 rfl rfl ?_
    refine V.cs1D dX11_fleet_11 lk_X11_159 (c_isDay _ ⟨rfl, rfl⟩) (by decide) (by decide) (Nat.le_of_ble_eq_true rfl) (Nat.le_of_ble_eq_true rfl) (Nat.le_of_ble_eq_true rfl) ?_
    refine V.ifb_ne (tgt := 23) dX11_fleet_14 rfl (fun c14 => ?_) (fun c14 => ?_)
    · obtain ⟨i, hi, rfl⟩ := idxOf (x := o) (n := 10) (by omega)
      refine V.aload_n (i := 0) dX11_fleet_23 rfl rfl ?_
      refine V.iload_n (i := 1) dX11_fleet_24 rfl rfl ?_
      refine V.iload_n (i := 2) dX11_fleet_25 rfl rfl ?_
      refine V.cq2D hE dX11_fleet_26 lk_X11_168 rfl (c_fleetOf hE i on hi hI ⟨rfl, rfl⟩) (by decide) (by decide) (Nat.le_of_ble_eq_true rfl) (Nat.le_of_ble_eq_true rfl) (Nat.le_of_ble_eq_true rfl) ?_
      refine V.iret dX11_fleet_29 (Nat.le_of_ble_eq_true rfl) (Nat.le_of_ble_eq_true rfl) ?_
      exact pr_post ((if_pos (by omega)).trans (by rw [tn_nI (by omega)])) hp
    · refine V.aload_n (i := 0) dX11_fleet_17 rfl rfl ?_
      refine V.iconst dX11_fleet_18 ic_1 ?_
      refine V.cq1D hE dX11_fleet_19 lk_X11_137 rfl (c_finding hE _ (by decide) ⟨rfl, rfl⟩) (by decide) (by decide) (Nat.le_of_ble_eq_true rfl) (Nat.le_of_ble_eq_true rfl) (Nat.le_of_ble_eq_true rfl) ?_
      refine V.iret dX11_fleet_22 (Nat.le_of_ble_eq_true rfl) (Nat.le_of_ble_eq_true rfl) ?_
      exact pr_post (if_neg (by omega)) hp
end REF8

