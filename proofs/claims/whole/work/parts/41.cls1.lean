/-! ===== the class: small methods ===== -/
theorem i_sub_lt {a b : Nat} (h : a ≤ b) : b - a ≤ b := Nat.sub_le _ _
section CLS1
variable {E : VE} {σ : Sg} {G : GS} {x : Nat} {P : PT} {post : Option Value → Sg → Prop}
set_option maxRecDepth 100000 in
theorem k_isBelow (n e : Int32) (hp : post (some (.int (b2 (0 ≤ n.toInt ∧ n.toInt < e.toInt)))) σ) : MX10_isBelow E 1 0 0 [.int n, .int e] σ post := by
  refine MA.of RX10 "isBelow" [some (.int n), some (.int e)] rfl rfl rfl (catAll rfl) (Nat.le_of_ble_eq_true rfl) rfl (fun X => ?_)
  refine V.iload_n (i := 0) dX10_isBelow_0 rfl rfl ?_
  refine V.if_lt (tgt := 13) dX10_isBelow_1 rfl (fun c1 => ?_) (fun c1 => ?_)
  · rw [lt0] at c1
    refine V.iconst dX10_isBelow_13 ic_0 ?_
    refine V.zret dX10_isBelow_14 (by decide) (Nat.le_of_ble_eq_true rfl) (Nat.le_of_ble_eq_true rfl) ?_
    first | exact b2_ret1 (by omega) hp | exact b2_ret0 (by omega) hp
  · rw [lt0] at c1
    refine V.iload_n (i := 0) dX10_isBelow_4 rfl rfl ?_
    refine V.iload_n (i := 1) dX10_isBelow_5 rfl rfl ?_
    refine V.icmp_ge (tgt := 13) dX10_isBelow_6 rfl (fun c6 => ?_) (fun c6 => ?_)
    · rw [fa_le] at c6
      refine V.iconst dX10_isBelow_13 ic_0 ?_
      refine V.zret dX10_isBelow_14 (by decide) (Nat.le_of_ble_eq_true rfl) (Nat.le_of_ble_eq_true rfl) ?_
      first | exact b2_ret1 (by omega) hp | exact b2_ret0 (by omega) hp
    · rw [fa_le] at c6
      refine V.iconst dX10_isBelow_9 ic_1 ?_
      refine V.goto (tgt := 14) dX10_isBelow_10 rfl ?_
      refine V.zret dX10_isBelow_14 (by decide) (Nat.le_of_ble_eq_true rfl) (Nat.le_of_ble_eq_true rfl) ?_
      first | exact b2_ret1 (by omega) hp | exact b2_ret0 (by omega) hp
theorem k_isBelowN (n : Int32) (e : Nat) (he : e < 2 ^ 31) (hp : post (some (.int (b2 (0 ≤ n.toInt ∧ n.toInt < (e : Int))))) σ) : MX10_isBelow E 1 0 0 [.int n, .int (nI e)] σ post := k_isBelow n _ (b2_post (by rw [toI _ he]) hp)
set_option maxRecDepth 100000 in
theorem k_isKindAndClass (n : Int32) (hp : post (some (.int (b2 (0 ≤ n.toInt ∧ n.toInt < 40 ∧ n.toInt % 10 < 4)))) σ) : MX10_isKindAndClass E 2 0 0 [.int n] σ post := by
  refine MA.of RX10 "isKindAndClass" [some (.int n)] rfl rfl rfl (catAll rfl) (Nat.le_of_ble_eq_true rfl) rfl (fun X => ?_)
  refine V.iload_n (i := 0) dX10_isKindAndClass_0 rfl rfl ?_
  refine V.bipush dX10_isKindAndClass_1 bc_40 ?_
  refine V.cs2D dX10_isKindAndClass_3 lk_X10_96 (k_isBelowN _ 40 (by decide) ⟨rfl, rfl⟩) (by decide) (by decide) (Nat.le_of_ble_eq_true rfl) (Nat.le_of_ble_eq_true rfl) (Nat.le_of_ble_eq_true rfl) ?_
  refine V.ifb_eq (tgt := 21) dX10_isKindAndClass_6 rfl (fun c6 => ?_) (fun c6 => ?_)
  · refine V.iconst dX10_isKindAndClass_21 ic_0 ?_
    refine V.zret dX10_isKindAndClass_22 (by decide) (Nat.le_of_ble_eq_true rfl) (Nat.le_of_ble_eq_true rfl) ?_
    first | exact b2_ret1 (by omega) hp | exact b2_ret0 (by omega) hp
  · obtain ⟨j, hj, rfl⟩ := idxOf (x := n) (n := 40) (by omega)
    rw [toI j (by omega)] at hp
    refine V.iload_n (i := 0) dX10_isKindAndClass_9 rfl rfl ?_
    refine V.bipush dX10_isKindAndClass_10 bc_10 ?_
    refine V.irem dX10_isKindAndClass_12 (by decide) ?_
    refine V.as _ (pk_rem (by omega) (by decide) (by decide)) ?_
    refine V.iconst dX10_isKindAndClass_13 ic_4 ?_
    refine V.icmp_ge (tgt := 21) dX10_isKindAndClass_14 rfl (fun c14 => ?_) (fun c14 => ?_)
    · rw [nI_leI (by decide) (by omega)] at c14
      refine V.iconst dX10_isKindAndClass_21 ic_0 ?_
      refine V.zret dX10_isKindAndClass_22 (by decide) (Nat.le_of_ble_eq_true rfl) (Nat.le_of_ble_eq_true rfl) ?_
      first | exact b2_ret1 (by omega) hp | exact b2_ret0 (by omega) hp
    · rw [nI_leI (by decide) (by omega)] at c14
      refine V.iconst dX10_isKindAndClass_17 ic_1 ?_
      refine V.goto (tgt := 22) dX10_isKindAndClass_18 rfl ?_
      refine V.zret dX10_isKindAndClass_22 (by decide) (Nat.le_of_ble_eq_true rfl) (Nat.le_of_ble_eq_true rfl) ?_
      first | exact b2_ret1 (by omega) hp | exact b2_ret0 (by omega) hp
set_option maxRecDepth 100000 in
theorem k_isNameOwnerAndFlag (n : Int32) (hp : post (some (.int (b2 (0 ≤ n.toInt ∧ n.toInt < 10000 ∧ n.toInt % 10 < 6)))) σ) : MX10_isNameOwnerAndFlag E 2 0 0 [.int n] σ post := by
  refine MA.of RX10 "isNameOwnerAndFlag" [some (.int n)] rfl rfl rfl (catAll rfl) (Nat.le_of_ble_eq_true rfl) rfl (fun X => ?_)
  refine V.iload_n (i := 0) dX10_isNameOwnerAndFlag_0 rfl rfl ?_
  refine V.sipush dX10_isNameOwnerAndFlag_1 sc_10000 ?_
  refine V.cs2D dX10_isNameOwnerAndFlag_4 lk_X10_96 (k_isBelowN _ 10000 (by decide) ⟨rfl, rfl⟩) (by decide) (by decide) (Nat.le_of_ble_eq_true rfl) (Nat.le_of_ble_eq_true rfl) (Nat.le_of_ble_eq_true rfl) ?_
  refine V.ifb_eq (tgt := 23) dX10_isNameOwnerAndFlag_7 rfl (fun c7 => ?_) (fun c7 => ?_)
  · refine V.iconst dX10_isNameOwnerAndFlag_23 ic_0 ?_
    refine V.zret dX10_isNameOwnerAndFlag_24 (by decide) (Nat.le_of_ble_eq_true rfl) (Nat.le_of_ble_eq_true rfl) ?_
    first | exact b2_ret1 (by omega) hp | exact b2_ret0 (by omega) hp
  · obtain ⟨j, hj, rfl⟩ := idxOf (x := n) (n := 10000) (by omega)
    rw [toI j (by omega)] at hp
    refine V.iload_n (i := 0) dX10_isNameOwnerAndFlag_10 rfl rfl ?_
    refine V.bipush dX10_isNameOwnerAndFlag_11 bc_10 ?_
    refine V.irem dX10_isNameOwnerAndFlag_13 (by decide) ?_
    refine V.as _ (pk_rem (by omega) (by decide) (by decide)) ?_
    refine V.bipush dX10_isNameOwnerAndFlag_14 bc_6 ?_
    refine V.icmp_ge (tgt := 23) dX10_isNameOwnerAndFlag_16 rfl (fun c16 => ?_) (fun c16 => ?_)
    · rw [nI_leI (by decide) (by omega)] at c16
      refine V.iconst dX10_isNameOwnerAndFlag_23 ic_0 ?_
      refine V.zret dX10_isNameOwnerAndFlag_24 (by decide) (Nat.le_of_ble_eq_true rfl) (Nat.le_of_ble_eq_true rfl) ?_
      first | exact b2_ret1 (by omega) hp | exact b2_ret0 (by omega) hp
    · rw [nI_leI (by decide) (by omega)] at c16
      refine V.iconst dX10_isNameOwnerAndFlag_19 ic_1 ?_
      refine V.goto (tgt := 24) dX10_isNameOwnerAndFlag_20 rfl ?_
      refine V.zret dX10_isNameOwnerAndFlag_24 (by decide) (Nat.le_of_ble_eq_true rfl) (Nat.le_of_ble_eq_true rfl) ?_
      first | exact b2_ret1 (by omega) hp | exact b2_ret0 (by omega) hp
set_option maxRecDepth 100000 in
theorem k_areHours (n : Int32) (hp : post (some (.int (b2 (0 ≤ n.toInt ∧ n.toInt / 100 ≤ 24 ∧ n.toInt % 100 ≤ 24)))) σ) : MX10_areHours E 1 0 0 [.int n] σ post := by
  refine MA.of RX10 "areHours" [some (.int n)] rfl rfl rfl (catAll rfl) (Nat.le_of_ble_eq_true rfl) rfl (fun X => ?_)
  refine V.iload_n (i := 0) dX10_areHours_0 rfl rfl ?_
  refine V.if_lt (tgt := 26) dX10_areHours_1 rfl (fun c1 => ?_) (fun c1 => ?_)
  · rw [lt0] at c1
    refine V.iconst dX10_areHours_26 ic_0 ?_
    refine V.zret dX10_areHours_27 (by decide) (Nat.le_of_ble_eq_true rfl) (Nat.le_of_ble_eq_true rfl) ?_
    first | exact b2_ret1 (by omega) hp | exact b2_ret0 (by omega) hp
  · obtain ⟨j, hj, rfl⟩ := nI_of c1
    rw [toI j hj] at hp
    refine V.iload_n (i := 0) dX10_areHours_4 rfl rfl ?_
    refine V.bipush dX10_areHours_5 bc_100 ?_
    refine V.idiv dX10_areHours_7 (by decide) ?_
    refine V.as _ (pk_div hj (by decide) (by decide)) ?_
    refine V.bipush dX10_areHours_8 bc_24 ?_
    refine V.icmp_gt (tgt := 26) dX10_areHours_10 rfl (fun c10 => ?_) (fun c10 => ?_)
    · rw [nI_ltI (by decide) (by omega)] at c10
      refine V.iconst dX10_areHours_26 ic_0 ?_
      refine V.zret dX10_areHours_27 (by decide) (Nat.le_of_ble_eq_true rfl) (Nat.le_of_ble_eq_true rfl) ?_
      first | exact b2_ret1 (by omega) hp | exact b2_ret0 (by omega) hp
    · rw [nI_ltI (by decide) (by omega)] at c10
      refine V.iload_n (i := 0) dX10_areHours_13 rfl rfl ?_
      refine V.bipush dX10_areHours_14 bc_100 ?_
      refine V.irem dX10_areHours_16 (by decide) ?_
      refine V.as _ (pk_rem hj (by decide) (by decide)) ?_
      refine V.bipush dX10_areHours_17 bc_24 ?_
      refine V.icmp_gt (tgt := 26) dX10_areHours_19 rfl (fun c19 => ?_) (fun c19 => ?_)
      · rw [nI_ltI (by decide) (by omega)] at c19
        refine V.iconst dX10_areHours_26 ic_0 ?_
        refine V.zret dX10_areHours_27 (by decide) (Nat.le_of_ble_eq_true rfl) (Nat.le_of_ble_eq_true rfl) ?_
        first | exact b2_ret1 (by omega) hp | exact b2_ret0 (by omega) hp
      · rw [nI_ltI (by decide) (by omega)] at c19
        refine V.iconst dX10_areHours_22 ic_1 ?_
        refine V.goto (tgt := 27) dX10_areHours_23 rfl ?_
        refine V.zret dX10_areHours_27 (by decide) (Nat.le_of_ble_eq_true rfl) (Nat.le_of_ble_eq_true rfl) ?_
        first | exact b2_ret1 (by omega) hp | exact b2_ret0 (by omega) hp
set_option maxRecDepth 100000 in
theorem k_valuesOf (w : Nat) (hw : w < 3) (hp : post (some (.int (nI (topOf w + 1)))) σ) : MX10_valuesOf E 1 0 0 [.int (nI w)] σ post := by
  refine MA.of RX10 "valuesOf" [some (.int (nI w))] rfl rfl rfl (catAll rfl) (Nat.le_of_ble_eq_true rfl) rfl (fun X => ?_)
  refine V.iload_n (i := 0) dX10_valuesOf_0 rfl rfl ?_
  refine V.if_ne (tgt := 7) dX10_valuesOf_1 rfl (fun c1 => ?_) (fun c1 => ?_)
  · refine V.iload_n (i := 0) dX10_valuesOf_7 rfl rfl ?_
    refine V.iconst dX10_valuesOf_8 ic_1 ?_
    refine V.icmp_ne (tgt := 17) dX10_valuesOf_9 rfl (fun c9 => ?_) (fun c9 => ?_)
    · refine V.bipush dX10_valuesOf_17 bc_10 ?_
      refine V.iret dX10_valuesOf_19 (Nat.le_of_ble_eq_true rfl) (Nat.le_of_ble_eq_true rfl) ?_
      refine i_post ?_ hp
      rcases (show w = 0 ∨ w = 1 ∨ w = 2 by omega) with rfl | rfl | rfl <;> first | rfl | exact absurd (by decide) c1 | exact absurd c1 (by decide) | exact absurd (by decide) c9 | exact absurd c9 (by decide)
    · refine V.bipush dX10_valuesOf_12 bc_6 ?_
      refine V.goto (tgt := 19) dX10_valuesOf_14 rfl ?_
      refine V.iret dX10_valuesOf_19 (Nat.le_of_ble_eq_true rfl) (Nat.le_of_ble_eq_true rfl) ?_
      refine i_post ?_ hp
      rcases (show w = 0 ∨ w = 1 ∨ w = 2 by omega) with rfl | rfl | rfl <;> first | rfl | exact absurd (by decide) c1 | exact absurd c1 (by decide) | exact absurd (by decide) c9 | exact absurd c9 (by decide)
  · refine V.bipush dX10_valuesOf_4 bc_100 ?_
    refine V.iret dX10_valuesOf_6 (Nat.le_of_ble_eq_true rfl) (Nat.le_of_ble_eq_true rfl) ?_
    refine i_post ?_ hp
    rcases (show w = 0 ∨ w = 1 ∨ w = 2 by omega) with rfl | rfl | rfl <;> first | rfl | exact absurd (by decide) c1 | exact absurd c1 (by decide) | exact absurd (by decide) c9 | exact absurd c9 (by decide)
set_option maxRecDepth 100000 in
theorem k_groupsOf (w : Nat) (hw : w < 3) (hp : post (some (.int (nI (groupTop w + 1)))) σ) : MX10_groupsOf E 1 0 0 [.int (nI w)] σ post := by
  refine MA.of RX10 "groupsOf" [some (.int (nI w))] rfl rfl rfl (catAll rfl) (Nat.le_of_ble_eq_true rfl) rfl (fun X => ?_)
  refine V.iload_n (i := 0) dX10_groupsOf_0 rfl rfl ?_
  refine V.if_ne (tgt := 7) dX10_groupsOf_1 rfl (fun c1 => ?_) (fun c1 => ?_)
  · refine V.iload_n (i := 0) dX10_groupsOf_7 rfl rfl ?_
    refine V.iconst dX10_groupsOf_8 ic_1 ?_
    refine V.icmp_ne (tgt := 16) dX10_groupsOf_9 rfl (fun c9 => ?_) (fun c9 => ?_)
    · refine V.iconst dX10_groupsOf_16 ic_1 ?_
      refine V.iret dX10_groupsOf_17 (Nat.le_of_ble_eq_true rfl) (Nat.le_of_ble_eq_true rfl) ?_
      refine i_post ?_ hp
      rcases (show w = 0 ∨ w = 1 ∨ w = 2 by omega) with rfl | rfl | rfl <;> first | rfl | exact absurd (by decide) c1 | exact absurd c1 (by decide) | exact absurd (by decide) c9 | exact absurd c9 (by decide)
    · refine V.iconst dX10_groupsOf_12 ic_4 ?_
      refine V.goto (tgt := 17) dX10_groupsOf_13 rfl ?_
      refine V.iret dX10_groupsOf_17 (Nat.le_of_ble_eq_true rfl) (Nat.le_of_ble_eq_true rfl) ?_
      refine i_post ?_ hp
      rcases (show w = 0 ∨ w = 1 ∨ w = 2 by omega) with rfl | rfl | rfl <;> first | rfl | exact absurd (by decide) c1 | exact absurd c1 (by decide) | exact absurd (by decide) c9 | exact absurd c9 (by decide)
  · refine V.bipush dX10_groupsOf_4 bc_6 ?_
    refine V.iret dX10_groupsOf_6 (Nat.le_of_ble_eq_true rfl) (Nat.le_of_ble_eq_true rfl) ?_
    refine i_post ?_ hp
    rcases (show w = 0 ∨ w = 1 ∨ w = 2 by omega) with rfl | rfl | rfl <;> first | rfl | exact absurd (by decide) c1 | exact absurd c1 (by decide) | exact absurd (by decide) c9 | exact absurd c9 (by decide)
/-- a kind is under another one -/
def undr (k t : Nat) : Prop := t = 0 ∨ t = k ∨ (t = 1 ∧ k = 2)
set_option maxRecDepth 100000 in
theorem k_isUnder (k : Nat) (t : Int32) (hk : k < 4) (hp : post (some (.int (b2 (t = nI 0 ∨ t = nI k ∨ (t = nI 1 ∧ nI k = nI 2))))) σ) : MX10_isUnder E 2 0 0 [.int (nI k), .int t] σ post := by
  refine MA.of RX10 "isUnder" [some (.int (nI k)), some (.int t), none, none] rfl rfl rfl (catAll rfl) (Nat.le_of_ble_eq_true rfl) rfl (fun X => ?_)
  -- the climb, by hand: at most three kinds
  have end0 : ∀ l2 l3, post (some (.int (nI 0))) σ → V E X RX10 "isUnder" cX10_isUnder 4 (some .boolean) 2 0 0 (QM E X post 0 0) σ 0 0 36 [some (.int (nI k)), some (.int t), l2, l3] [] := by
    intro l2 l3 hp
    refine V.iconst dX10_isUnder_36 ic_0 ?_
    refine V.zret dX10_isUnder_37 (by decide) (Nat.le_of_ble_eq_true rfl) (Nat.le_of_ble_eq_true rfl) ?_
    exact hp
  have one : ∀ j u : Nat, j < 4 → u < 4 → (t = nI j → V E X RX10 "isUnder" cX10_isUnder 4 (some .boolean) 2 0 0 (QM E X post 0 0) σ 0 0 22 [some (.int (nI k)), some (.int t), some (.int (nI j)), some (.int (nI u))] []) → (t ≠ nI j → V E X RX10 "isUnder" cX10_isUnder 4 (some .boolean) 2 0 0 (QM E X post 0 0) σ 0 0 4 [some (.int (nI k)), some (.int t), some (.int (above j)), some (.int (nI (u + 1)))] []) → V E X RX10 "isUnder" cX10_isUnder 4 (some .boolean) 2 0 0 (QM E X post 0 0) σ 0 0 4 [some (.int (nI k)), some (.int t), some (.int (nI j)), some (.int (nI u))] [] := by
    intro j u hj hu h1 h2
    refine V.iload_n (i := 3) dX10_isUnder_4 rfl rfl ?_
    refine V.iconst dX10_isUnder_5 ic_4 ?_
    refine V.icmp_geF (tgt := 36) dX10_isUnder_6 rfl (nI_ge (by omega) (by omega)) ?_
    refine V.iload_n (i := 2) dX10_isUnder_9 rfl rfl ?_
    refine V.iconst dX10_isUnder_10 ic_4 ?_
    refine V.cs2D dX10_isUnder_11 lk_X10_96 (k_isBelowN _ 4 (by decide) ⟨rfl, rfl⟩) (by decide) (by decide) (Nat.le_of_ble_eq_true rfl) (Nat.le_of_ble_eq_true rfl) (Nat.le_of_ble_eq_true rfl) ?_
    refine V.ifb_eqF (tgt := 36) dX10_isUnder_14 rfl (by rw [toI _ (by omega)]; omega) ?_
    refine V.iload_n (i := 2) dX10_isUnder_17 rfl rfl ?_
    refine V.iload_n (i := 1) dX10_isUnder_18 rfl rfl ?_
    refine V.icmp_ne (tgt := 24) dX10_isUnder_19 rfl (fun c19 => ?_) (fun c19 => ?_)
    · refine V.gets (i := 0) (by decide) dX10_isUnder_24 fs_X10_334 ?_
      refine V.iload_n (i := 2) dX10_isUnder_27 rfl rfl ?_
      refine V.sald (i := 0) (by decide) dX10_isUnder_28 rfl (by omega) ?_
      refine V.istore_n2 (by decide) dX10_isUnder_29 ?_
      refine V.iinc3 (by decide) dX10_isUnder_30 (inc1 _) ?_
      refine V.goto (tgt := 4) dX10_isUnder_33 rfl ?_
      exact h2 (fun e => c19 e.symm)
    · exact h1 c19.symm
  have neg : ∀ u : Nat, u < 4 → post (some (.int (nI 0))) σ → V E X RX10 "isUnder" cX10_isUnder 4 (some .boolean) 2 0 0 (QM E X post 0 0) σ 0 0 4 [some (.int (nI k)), some (.int t), some (.int (-1)), some (.int (nI u))] [] := by
    intro u hu hp
    refine V.iload_n (i := 3) dX10_isUnder_4 rfl rfl ?_
    refine V.iconst dX10_isUnder_5 ic_4 ?_
    refine V.icmp_geF (tgt := 36) dX10_isUnder_6 rfl (nI_ge (by omega) (by omega)) ?_
    refine V.iload_n (i := 2) dX10_isUnder_9 rfl rfl ?_
    refine V.iconst dX10_isUnder_10 ic_4 ?_
    refine V.cs2D dX10_isUnder_11 lk_X10_96 (k_isBelowN _ 4 (by decide) ⟨rfl, rfl⟩) (by decide) (by decide) (Nat.le_of_ble_eq_true rfl) (Nat.le_of_ble_eq_true rfl) (Nat.le_of_ble_eq_true rfl) ?_
    refine V.ifb_eqT (tgt := 36) dX10_isUnder_14 rfl (by decide) ?_
    exact end0 _ _ hp
  have yes : ∀ j u : Nat, post (some (.int (nI 1))) σ → V E X RX10 "isUnder" cX10_isUnder 4 (some .boolean) 2 0 0 (QM E X post 0 0) σ 0 0 22 [some (.int (nI k)), some (.int t), some (.int (nI j)), some (.int (nI u))] [] := by
    intro j u hp
    refine V.iconst dX10_isUnder_22 ic_1 ?_
    refine V.zret dX10_isUnder_23 (by decide) (Nat.le_of_ble_eq_true rfl) (Nat.le_of_ble_eq_true rfl) ?_
    exact hp
  have go : V E X RX10 "isUnder" cX10_isUnder 4 (some .boolean) 2 0 0 (QM E X post 0 0) σ 0 0 4 [some (.int (nI k)), some (.int t), some (.int (nI k)), some (.int (nI 0))] [] := by
    rcases (show k = 0 ∨ k = 1 ∨ k = 2 ∨ k = 3 by omega) with rfl | rfl | rfl | rfl
    · exact one 0 0 (by decide) (by decide) (fun e => yes _ _ (b2_ret1 (Or.inl e) hp)) (fun e0 => neg 1 (by decide) (b2_ret0 (by rintro (q | q | q); exact e0 q; exact e0 q; exact absurd q.2 (by decide)) hp))
    · exact one 1 0 (by decide) (by decide) (fun e => yes _ _ (b2_ret1 (Or.inr (Or.inl e)) hp)) (fun e1 => one 0 1 (by decide) (by decide) (fun e => yes _ _ (b2_ret1 (Or.inl e) hp)) (fun e0 => neg 2 (by decide) (b2_ret0 (by rintro (q | q | q); exact e0 q; exact e1 q; exact absurd q.2 (by decide)) hp)))
    · exact one 2 0 (by decide) (by decide) (fun e => yes _ _ (b2_ret1 (Or.inr (Or.inl e)) hp)) (fun e2 => one 1 1 (by decide) (by decide) (fun e => yes _ _ (b2_ret1 (Or.inr (Or.inr ⟨e, rfl⟩)) hp)) (fun e1 => one 0 2 (by decide) (by decide) (fun e => yes _ _ (b2_ret1 (Or.inl e) hp)) (fun e0 => neg 3 (by decide) (b2_ret0 (by rintro (q | q | q); exact e0 q; exact e2 q; exact e1 q.1) hp))))
    · exact one 3 0 (by decide) (by decide) (fun e => yes _ _ (b2_ret1 (Or.inr (Or.inl e)) hp)) (fun e3 => one 0 1 (by decide) (by decide) (fun e => yes _ _ (b2_ret1 (Or.inl e) hp)) (fun e0 => neg 2 (by decide) (b2_ret0 (by rintro (q | q | q); exact e0 q; exact e3 q; exact absurd q.2 (by decide)) hp)))
  refine V.iload_n (i := 0) dX10_isUnder_0 rfl rfl ?_
  refine V.istore_n2 (by decide) dX10_isUnder_1 ?_
  refine V.iconst dX10_isUnder_2 ic_0 ?_
  refine V.istore_n3 (by decide) dX10_isUnder_3 ?_
  exact go
end CLS1

