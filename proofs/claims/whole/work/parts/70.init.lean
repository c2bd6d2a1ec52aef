/-! ===== the class: its making ===== -/
section INIT
variable {E : VE} {σ : Sg} {post : Option Value → Sg → Prop}
def grS (τ : Sg) (g : Nat) : Nat → Sg
  | 0 => τ
  | k + 1 => wI (grS τ g k) 20 g k (nI k)
theorem grS_at (τ : Sg) (g : Nat) : ∀ k j, sI (grS τ g k) 20 g j = if j < k then nI j else sI τ 20 g j
  | 0, j => by rw [if_neg (by omega)]; rfl
  | k + 1, j => by
    unfold grS
    rw [sI_wI]
    by_cases e : j = k
    · rw [if_pos ⟨rfl, rfl, e⟩, if_pos (by omega), e]
    · rw [if_neg (fun z => e z.2.2), grS_at τ g k j]
      by_cases q : j < k
      · rw [if_pos q, if_pos (by omega)]
      · rw [if_neg q, if_neg (by omega)]
theorem grS_o (τ : Sg) (g : Nat) (t : Nat) (ht : t ≠ 20) : ∀ k a j, sI (grS τ g k) t a j = sI τ t a j
  | 0, a, j => rfl
  | k + 1, a, j => by
    unfold grS
    rw [sI_wI, if_neg (fun z => ht z.1)]
    exact grS_o τ g t ht k a j
theorem grS_R (τ : Sg) (g : Nat) : ∀ k t a j, sR (grS τ g k) t a j = sR τ t a j
  | 0, _, _, _ => rfl
  | k + 1, t, a, j => grS_R τ g k t a j
theorem grS_T (τ : Sg) (g : Nat) : ∀ k a, sT (grS τ g k) a = sT τ a
  | 0, _ => rfl
  | k + 1, a => grS_T τ g k a
theorem grS_N (τ : Sg) (g : Nat) : ∀ k, sN (grS τ g k) = sN τ
  | 0 => rfl
  | k + 1 => grS_N τ g k
theorem grS_G (τ : Sg) (g : Nat) : ∀ k, sG (grS τ g k) = sG τ
  | 0 => rfl
  | k + 1 => grS_G τ g k
set_option maxRecDepth 100000 in
theorem k_ownersInit {a : Nat} (ht : sT σ a = 4) (hlt : a < sN σ) (hp : post none (wR (grS (wN σ 20) (sN σ) 10) 4 a 0 (some (sN σ)))) : MX3_init E 1 1 10 [.ref a] σ post := by
  refine MA.of RX3 "<init>" [some (.ref a)] rfl rfl rfl (catAll rfl) (Nat.le_of_ble_eq_true rfl) rfl (fun X => ?_)
  have tw : sT (wN σ 20) (sN σ) = 20 := if_pos rfl
  have t1 : sT (wN σ 20) a = 4 := by rw [sT_wN, if_neg (by omega)]; exact ht
  refine V.aload_n (i := 0) dX3_init_0 rfl rfl ?_
  refine V.objInit dX3_init_1 wm_X3_3 wi_objectInit wc_objectInit (Nat.le_of_ble_eq_true rfl) (by decide) ?_
  refine V.aload_n (i := 0) dX3_init_4 rfl rfl ?_
  refine V.bipush dX3_init_5 bc_10 ?_
  refine V.newa 20 dX3_init_7 rfl wa_int (by decide) (by decide) rfl (by decide) (by decide) (by decide) ?_
  refine V.dup dX3_init_9 rfl ?_
  refine V.iconst dX3_init_10 ic_0 ?_
  refine V.iconst dX3_init_11 ic_0 ?_
  refine V.iast (t := 20) dX3_init_12 tw (by decide) rfl rfl (show _ < 10 from (by omega)) (by decide) ?_
  refine V.dup dX3_init_13 rfl ?_
  refine V.iconst dX3_init_14 ic_1 ?_
  refine V.iconst dX3_init_15 ic_1 ?_
  refine V.iast (t := 20) dX3_init_16 tw (by decide) rfl rfl (show _ < 10 from (by omega)) (by decide) ?_
  refine V.dup dX3_init_17 rfl ?_
  refine V.iconst dX3_init_18 ic_2 ?_
  refine V.iconst dX3_init_19 ic_2 ?_
  refine V.iast (t := 20) dX3_init_20 tw (by decide) rfl rfl (show _ < 10 from (by omega)) (by decide) ?_
  refine V.dup dX3_init_21 rfl ?_
  refine V.iconst dX3_init_22 ic_3 ?_
  refine V.iconst dX3_init_23 ic_3 ?_
  refine V.iast (t := 20) dX3_init_24 tw (by decide) rfl rfl (show _ < 10 from (by omega)) (by decide) ?_
  refine V.dup dX3_init_25 rfl ?_
  refine V.iconst dX3_init_26 ic_4 ?_
  refine V.iconst dX3_init_27 ic_4 ?_
  refine V.iast (t := 20) dX3_init_28 tw (by decide) rfl rfl (show _ < 10 from (by omega)) (by decide) ?_
  refine V.dup dX3_init_29 rfl ?_
  refine V.iconst dX3_init_30 ic_5 ?_
  refine V.iconst dX3_init_31 ic_5 ?_
  refine V.iast (t := 20) dX3_init_32 tw (by decide) rfl rfl (show _ < 10 from (by omega)) (by decide) ?_
  refine V.dup dX3_init_33 rfl ?_
  refine V.bipush dX3_init_34 bc_6 ?_
  refine V.bipush dX3_init_36 bc_6 ?_
  refine V.iast (t := 20) dX3_init_38 tw (by decide) rfl rfl (show _ < 10 from (by omega)) (by decide) ?_
  refine V.dup dX3_init_39 rfl ?_
  refine V.bipush dX3_init_40 bc_7 ?_
  refine V.bipush dX3_init_42 bc_7 ?_
  refine V.iast (t := 20) dX3_init_44 tw (by decide) rfl rfl (show _ < 10 from (by omega)) (by decide) ?_
  refine V.dup dX3_init_45 rfl ?_
  refine V.bipush dX3_init_46 bc_8 ?_
  refine V.bipush dX3_init_48 bc_8 ?_
  refine V.iast (t := 20) dX3_init_50 tw (by decide) rfl rfl (show _ < 10 from (by omega)) (by decide) ?_
  refine V.dup dX3_init_51 rfl ?_
  refine V.bipush dX3_init_52 bc_9 ?_
  refine V.bipush dX3_init_54 bc_9 ?_
  refine V.iast (t := 20) dX3_init_56 tw (by decide) rfl rfl (show _ < 10 from (by omega)) (by decide) ?_
  refine V.putFr dX3_init_57 fl_X3_9 rfl rfl rfl rfl t1 ?_
  refine V.vret dX3_init_60 (Nat.le_of_ble_eq_true rfl) (Nat.le_of_ble_eq_true rfl) ?_
  exact hp
set_option maxRecDepth 100000 in
theorem k_tallyInit {a : Nat} (hp : post none σ) : MX6_init E 1 0 0 [.ref a] σ post := by
  refine MA.of RX6 "<init>" [some (.ref a)] rfl rfl rfl (catAll rfl) (Nat.le_of_ble_eq_true rfl) rfl (fun X => ?_)
  refine V.aload_n (i := 0) dX6_init_0 rfl rfl ?_
  refine V.objInit dX6_init_1 wm_X6_1 wi_objectInit wc_objectInit (Nat.le_of_ble_eq_true rfl) (by decide) ?_
  refine V.vret dX6_init_4 (Nat.le_of_ble_eq_true rfl) (Nat.le_of_ble_eq_true rfl) ?_
  exact hp
set_option maxRecDepth 100000 in
theorem k_tapeInit {a : Nat} (ht : sT σ a = 8) (hlt : a < sN σ) (hp : post none (wR (wN σ 22) 8 a 0 (some (sN σ)))) : MX7_init E 1 1 60 [.ref a] σ post := by
  refine MA.of RX7 "<init>" [some (.ref a)] rfl rfl rfl (catAll rfl) (Nat.le_of_ble_eq_true rfl) rfl (fun X => ?_)
  have t1 : sT (wN σ 22) a = 8 := by rw [sT_wN, if_neg (by omega)]; exact ht
  refine V.aload_n (i := 0) dX7_init_0 rfl rfl ?_
  refine V.objInit dX7_init_1 wm_X7_3 wi_objectInit wc_objectInit (Nat.le_of_ble_eq_true rfl) (by decide) ?_
  refine V.aload_n (i := 0) dX7_init_4 rfl rfl ?_
  refine V.bipush dX7_init_5 bc_60 ?_
  refine V.newa 22 dX7_init_7 rfl wa_int (by decide) (by decide) rfl (by decide) (by decide) (by decide) ?_
  refine V.putFr dX7_init_9 fl_X7_9 rfl rfl rfl rfl t1 ?_
  refine V.vret dX7_init_12 (Nat.le_of_ble_eq_true rfl) (Nat.le_of_ble_eq_true rfl) ?_
  exact hp
def b5S (τ : Sg) (a : Nat) : Sg := wR (wN (wR (wN (wR (wN (wR (wN (wR (wN τ 27) 1 a 0 (some (sN τ))) 28) 1 a 1 (some (sN τ + 1))) 29) 1 a 2 (some (sN τ + 2))) 30) 1 a 3 (some (sN τ + 3))) 31) 1 a 4 (some (sN τ + 4))
set_option maxRecDepth 100000 in
theorem k_boardInit {a : Nat} (ht : sT σ a = 1) (hlt : a < sN σ) (hp : post none (b5S σ a)) : MX0_init E 1 5 40 [.ref a] σ post := by
  refine MA.of RX0 "<init>" [some (.ref a)] rfl rfl rfl (catAll rfl) (Nat.le_of_ble_eq_true rfl) rfl (fun X => ?_)
  have t1 : sT (wN σ 27) a = 1 := by rw [sT_wN, if_neg (by omega)]; exact ht
  have t2 : sT (wN (wR (wN σ 27) 1 a 0 (some (sN σ))) 28) a = 1 := by
    show (if a = sN σ + 1 then 28 else sT (wN σ 27) a) = 1
    rw [if_neg (by omega)]; exact t1
  have t3 : sT (wN (wR (wN (wR (wN σ 27) 1 a 0 (some (sN σ))) 28) 1 a 1 (some (sN σ + 1))) 29) a = 1 := by
    show (if a = sN σ + 1 + 1 then 29 else sT (wN (wR (wN σ 27) 1 a 0 (some (sN σ))) 28) a) = 1
    rw [if_neg (by omega)]; exact t2
  have t4 : sT (wN (wR (wN (wR (wN (wR (wN σ 27) 1 a 0 (some (sN σ))) 28) 1 a 1 (some (sN σ + 1))) 29) 1 a 2 (some (sN σ + 2))) 30) a = 1 := by
    show (if a = sN σ + 1 + 1 + 1 then 30 else _) = 1
    rw [if_neg (by omega)]; exact t3
  have t5 : sT (wN (wR (wN (wR (wN (wR (wN (wR (wN σ 27) 1 a 0 (some (sN σ))) 28) 1 a 1 (some (sN σ + 1))) 29) 1 a 2 (some (sN σ + 2))) 30) 1 a 3 (some (sN σ + 3))) 31) a = 1 := by
    show (if a = sN σ + 1 + 1 + 1 + 1 then 31 else _) = 1
    rw [if_neg (by omega)]; exact t4
  refine V.aload_n (i := 0) dX0_init_0 rfl rfl ?_
  refine V.objInit dX0_init_1 wm_X0_3 wi_objectInit wc_objectInit (Nat.le_of_ble_eq_true rfl) (by decide) ?_
  refine V.aload_n (i := 0) dX0_init_4 rfl rfl ?_
  refine V.bipush dX0_init_5 bc_8 ?_
  refine V.newa 27 dX0_init_7 rfl wa_int (by decide) (by decide) rfl (by decide) (by decide) (by decide) ?_
  refine V.putFr dX0_init_9 fl_X0_9 rfl rfl rfl rfl t1 ?_
  refine V.aload_n (i := 0) dX0_init_12 rfl rfl ?_
  refine V.bipush dX0_init_13 bc_8 ?_
  refine V.newa 28 dX0_init_15 rfl wa_int (by decide) (by decide) rfl (by decide) (by decide) (by decide) ?_
  refine V.putFr dX0_init_17 fl_X0_15 rfl rfl rfl rfl t2 ?_
  refine V.aload_n (i := 0) dX0_init_20 rfl rfl ?_
  refine V.bipush dX0_init_21 bc_8 ?_
  refine V.newa 29 dX0_init_23 rfl wa_int (by decide) (by decide) rfl (by decide) (by decide) (by decide) ?_
  refine V.putFr dX0_init_25 fl_X0_18 rfl rfl rfl rfl t3 ?_
  refine V.aload_n (i := 0) dX0_init_28 rfl rfl ?_
  refine V.bipush dX0_init_29 bc_8 ?_
  refine V.newa 30 dX0_init_31 rfl wa_int (by decide) (by decide) rfl (by decide) (by decide) (by decide) ?_
  refine V.putFr dX0_init_33 fl_X0_21 rfl rfl rfl rfl t4 ?_
  refine V.aload_n (i := 0) dX0_init_36 rfl rfl ?_
  refine V.bipush dX0_init_37 bc_8 ?_
  refine V.newa 31 dX0_init_39 rfl wa_int (by decide) (by decide) rfl (by decide) (by decide) (by decide) ?_
  refine V.putFr dX0_init_41 fl_X0_24 rfl rfl rfl rfl t5 ?_
  refine V.vret dX0_init_44 (Nat.le_of_ble_eq_true rfl) (Nat.le_of_ble_eq_true rfl) ?_
  exact hp
/-- the class's cells as they are made; x is the object, N = the next address at its constructor's entry -/
def i1S (τ : Sg) (x : Nat) : Sg := wR (wN τ 32) 11 x 0 (some (sN τ))
def i2S (τ : Sg) (x : Nat) : Sg := wR (wR (grS (wN (wN (i1S τ x) 4) 20) (sN τ + 2) 10) 4 (sN τ + 1) 0 (some (sN τ + 2))) 11 x 3 (some (sN τ + 1))
def i3S (τ : Sg) (x : Nat) : Sg := wR (wN (wR (wN (wR (wN (i2S τ x) 33) 11 x 4 (some (sN τ + 3))) 34) 11 x 6 (some (sN τ + 4))) 35) 11 x 8 (some (sN τ + 5))
def i4S (τ : Sg) (x : Nat) : Sg := wI (wR (wR (wN (wN (i3S τ x) 8) 22) 8 (sN τ + 6) 0 (some (sN τ + 7))) 11 x 10 (some (sN τ + 6))) 11 x 12 (nI 36)
def i5S (τ : Sg) (x : Nat) : Sg := wR (wN (wR (wN (wR (wN (i4S τ x) 25) 11 x 14 (some (sN τ + 8))) 26) 11 x 16 (some (sN τ + 9))) 7) 11 x 17 (some (sN τ + 10))
def i6S (τ : Sg) (x : Nat) : Sg := wR (b5S (wN (i5S τ x) 1) (sN τ + 11)) 11 x 18 (some (sN τ + 11))
theorem i2_N (τ : Sg) (x : Nat) : sN (i2S τ x) = sN τ + 3 := rfl
theorem i2_T (τ : Sg) (x a : Nat) : sT (i2S τ x) a = if a = sN τ + 2 then 20 else if a = sN τ + 1 then 4 else if a = sN τ then 32 else sT τ a := rfl
theorem i3_T (τ : Sg) (x a : Nat) : sT (i3S τ x) a = if a = sN τ + 5 then 35 else if a = sN τ + 4 then 34 else if a = sN τ + 3 then 33 else sT (i2S τ x) a := rfl
theorem i4_T (τ : Sg) (x a : Nat) : sT (i4S τ x) a = if a = sN τ + 7 then 22 else if a = sN τ + 6 then 8 else sT (i3S τ x) a := rfl
theorem i5_T (τ : Sg) (x a : Nat) : sT (i5S τ x) a = if a = sN τ + 10 then 7 else if a = sN τ + 9 then 26 else if a = sN τ + 8 then 25 else sT (i4S τ x) a := rfl
theorem i6_T (τ : Sg) (x a : Nat) : sT (i6S τ x) a = if a = sN τ + 16 then 31 else if a = sN τ + 15 then 30 else if a = sN τ + 14 then 29 else if a = sN τ + 13 then 28 else if a = sN τ + 12 then 27 else if a = sN τ + 11 then 1 else sT (i5S τ x) a := rfl
set_option maxRecDepth 100000 in
theorem k_init {x : Nat} (ht : sT σ x = 11) (hlt : x < sN σ) (hp : post none (i6S σ x)) : MX10_init E 2 20 300 [.ref x] σ post := by
  refine MA.of RX10 "<init>" [some (.ref x)] rfl rfl rfl (catAll rfl) (Nat.le_of_ble_eq_true rfl) rfl (fun X => ?_)
  have u2 : sT (i2S σ x) x = 11 := by rw [i2_T, if_neg (by omega), if_neg (by omega), if_neg (by omega)]; exact ht
  have u3 : sT (i3S σ x) x = 11 := by rw [i3_T, if_neg (by omega), if_neg (by omega), if_neg (by omega)]; exact u2
  have u4 : sT (i4S σ x) x = 11 := by rw [i4_T, if_neg (by omega), if_neg (by omega)]; exact u3
  have u5 : sT (i5S σ x) x = 11 := by rw [i5_T, if_neg (by omega), if_neg (by omega), if_neg (by omega)]; exact u4
  refine V.aload_n (i := 0) dX10_init_0 rfl rfl ?_
  refine V.objInit dX10_init_1 wm_X10_3 wi_objectInit wc_objectInit (Nat.le_of_ble_eq_true rfl) (by decide) ?_
  refine V.aload_n (i := 0) dX10_init_4 rfl rfl ?_
  refine V.bipush dX10_init_5 bc_16 ?_
  refine V.newq 32 dX10_init_7 wk_X10_9 (by decide) (by decide) rfl (by decide) (by decide) (by decide) ?_
  refine V.putFr dX10_init_10 fl_X10_11 rfl rfl rfl rfl (show (if x = sN σ then 32 else sT σ x) = 11 by rw [if_neg (by omega)]; exact ht) ?_
  refine V.sts (σ' := i1S σ x) rfl ?_
  refine V.aload_n (i := 0) dX10_init_13 rfl rfl ?_
  refine V.new (ci := 3) dX10_init_14 (by decide) wk_X10_15 wx_X3 wn_X3 (by decide) (by decide) ?_
  refine V.dup dX10_init_17 rfl ?_
  refine V.cin0U dX10_init_18 lk_X10_17 (k_ownersInit (σ := wN (i1S σ x) 4) (a := sN σ + 1) (if_pos rfl) (Nat.lt_succ_self _) ⟨rfl, rfl⟩) (by decide) (by decide) (Nat.le_of_ble_eq_true rfl) (Nat.le_of_ble_eq_true rfl) (Nat.le_of_ble_eq_true rfl) ?_
  refine V.putFr dX10_init_21 fl_X10_18 rfl rfl rfl rfl u2 ?_
  refine V.sts (σ' := i2S σ x) rfl ?_
  refine V.aload_n (i := 0) dX10_init_24 rfl rfl ?_
  refine V.bipush dX10_init_25 bc_50 ?_
  refine V.newq 33 dX10_init_27 wk_X10_22 (by decide) (by decide) rfl (by decide) (by decide) (by decide) ?_
  refine V.putFr dX10_init_30 fl_X10_24 rfl rfl rfl rfl (show (if x = sN σ + 3 then 33 else sT (i2S σ x) x) = 11 by rw [if_neg (by omega)]; exact u2) ?_
  refine V.aload_n (i := 0) dX10_init_33 rfl rfl ?_
  refine V.bipush dX10_init_34 bc_60 ?_
  refine V.newq 34 dX10_init_36 wk_X10_28 (by decide) (by decide) rfl (by decide) (by decide) (by decide) ?_
  refine V.putFr dX10_init_39 fl_X10_30 rfl rfl rfl rfl (show (if x = sN σ + 4 then 34 else if x = sN σ + 3 then 33 else sT (i2S σ x) x) = 11 by rw [if_neg (by omega), if_neg (by omega)]; exact u2) ?_
  refine V.aload_n (i := 0) dX10_init_42 rfl rfl ?_
  refine V.bipush dX10_init_43 bc_6 ?_
  refine V.newq 35 dX10_init_45 wk_X10_34 (by decide) (by decide) rfl (by decide) (by decide) (by decide) ?_
  refine V.putFr dX10_init_48 fl_X10_36 rfl rfl rfl rfl (show (if x = sN σ + 5 then 35 else if x = sN σ + 4 then 34 else if x = sN σ + 3 then 33 else sT (i2S σ x) x) = 11 by rw [if_neg (by omega), if_neg (by omega), if_neg (by omega)]; exact u2) ?_
  refine V.sts (σ' := i3S σ x) rfl ?_
  refine V.aload_n (i := 0) dX10_init_51 rfl rfl ?_
  refine V.new (ci := 7) dX10_init_52 (by decide) wk_X10_40 wx_X7 wn_X7 (by decide) (by decide) ?_
  refine V.dup dX10_init_55 rfl ?_
  refine V.cin0U dX10_init_56 lk_X10_42 (k_tapeInit (σ := wN (i3S σ x) 8) (a := sN σ + 6) (if_pos rfl) (Nat.lt_succ_self _) ⟨rfl, rfl⟩) (by decide) (by decide) (Nat.le_of_ble_eq_true rfl) (Nat.le_of_ble_eq_true rfl) (Nat.le_of_ble_eq_true rfl) ?_
  refine V.putFr dX10_init_59 fl_X10_43 rfl rfl rfl rfl u4 ?_
  refine V.aload_n (i := 0) dX10_init_62 rfl rfl ?_
  refine V.bipush dX10_init_63 bc_36 ?_
  refine V.puti dX10_init_65 fl_X10_47 rfl rfl u4 ?_
  refine V.sts (σ' := i4S σ x) rfl ?_
  refine V.aload_n (i := 0) dX10_init_68 rfl rfl ?_
  refine V.bipush dX10_init_69 bc_16 ?_
  refine V.newa 25 dX10_init_71 rfl wa_int (by decide) (by decide) rfl (by decide) (by decide) (by decide) ?_
  refine V.putFr dX10_init_73 fl_X10_51 rfl rfl rfl rfl (show (if x = sN σ + 8 then 25 else sT (i4S σ x) x) = 11 by rw [if_neg (by omega)]; exact u4) ?_
  refine V.aload_n (i := 0) dX10_init_76 rfl rfl ?_
  refine V.bipush dX10_init_77 bc_6 ?_
  refine V.newa 26 dX10_init_79 rfl wa_int (by decide) (by decide) rfl (by decide) (by decide) (by decide) ?_
  refine V.putFr dX10_init_81 fl_X10_55 rfl rfl rfl rfl (show (if x = sN σ + 9 then 26 else if x = sN σ + 8 then 25 else sT (i4S σ x) x) = 11 by rw [if_neg (by omega), if_neg (by omega)]; exact u4) ?_
  refine V.aload_n (i := 0) dX10_init_84 rfl rfl ?_
  refine V.new (ci := 6) dX10_init_85 (by decide) wk_X10_58 wx_X6 wn_X6 (by decide) (by decide) ?_
  refine V.dup dX10_init_88 rfl ?_
  refine V.cin0U dX10_init_89 lk_X10_60 (k_tallyInit ⟨rfl, rfl⟩) (by decide) (by decide) (Nat.le_of_ble_eq_true rfl) (Nat.le_of_ble_eq_true rfl) (Nat.le_of_ble_eq_true rfl) ?_
  refine V.putFr dX10_init_92 fl_X10_61 rfl rfl rfl rfl u5 ?_
  refine V.sts (σ' := i5S σ x) rfl ?_
  refine V.aload_n (i := 0) dX10_init_95 rfl rfl ?_
  refine V.new (ci := 0) dX10_init_96 (by decide) wk_X10_65 wx_X0 wn_X0 (by decide) (by decide) ?_
  refine V.dup dX10_init_99 rfl ?_
  refine V.cin0U dX10_init_100 lk_X10_67 (k_boardInit (σ := wN (i5S σ x) 1) (a := sN σ + 11) (if_pos rfl) (Nat.lt_succ_self _) ⟨rfl, rfl⟩) (by decide) (by decide) (Nat.le_of_ble_eq_true rfl) (Nat.le_of_ble_eq_true rfl) (Nat.le_of_ble_eq_true rfl) ?_
  refine V.putFr dX10_init_103 fl_X10_68 rfl rfl rfl rfl (show sT (i6S σ x) x = 11 by rw [i6_T, if_neg (by omega), if_neg (by omega), if_neg (by omega), if_neg (by omega), if_neg (by omega), if_neg (by omega)]; exact u5) ?_
  refine V.vret dX10_init_106 (Nat.le_of_ble_eq_true rfl) (Nat.le_of_ble_eq_true rfl) ?_
  exact hp
end INIT

