/-! ===== the class: a treaty is signed ===== -/
section TREATY2
variable {E : VE} {σ s : Sg} {G : GS} {x : Nat} {P : PT} {post : Option Value → Sg → Prop}
def onesS (τ : Sg) (w : Nat) : Nat → Sg
  | 0 => τ
  | k + 1 => wI (onesS τ w k) 23 w k (nI 1)
theorem onesS_at (τ : Sg) (w : Nat) : ∀ k j, sI (onesS τ w k) 23 w j = if j < k then nI 1 else sI τ 23 w j
  | 0, j => by rw [if_neg (by omega)]; rfl
  | k + 1, j => by
    unfold onesS
    rw [sI_wI]
    by_cases e : j = k
    · rw [if_pos ⟨rfl, rfl, e⟩, if_pos (by omega)]
    · rw [if_neg (fun z => e z.2.2), onesS_at τ w k j]
      by_cases q : j < k
      · rw [if_pos q, if_pos (by omega)]
      · rw [if_neg q, if_neg (by omega)]
theorem onesS_nw {w : Nat} (h : nw σ s) (hw : sN σ ≤ w) : ∀ k, nw σ (onesS s w k)
  | 0 => h
  | k + 1 => (onesS_nw h hw k).I hw
def tyS (τ : Sg) (t : Nat) (on : Int32) : Sg := wI (wI (wR (wN (wR (onesS (wN τ 23) (sN τ) 10) 10 t 1 (some (sN τ))) 24) 10 t 2 (some (sN τ + 1))) 10 t 3 (nI 99)) 10 t 0 on
set_option maxRecDepth 100000 in
theorem k_treatyInit {t : Nat} (ht : sT s t = 10) (hlt : t < sN s) (on : Int32) (hp : post none (tyS s t on)) : MX9_init E 1 2 14 [.ref t, .int on] s post := by
  refine MA.of RX9 "<init>" [some (.ref t), some (.int on)] rfl rfl rfl (catAll rfl) (Nat.le_of_ble_eq_true rfl) rfl (fun X => ?_)
  have t1 : sT (wN s 23) t = 10 := by rw [sT_wN, if_neg (by omega)]; exact ht
  have tw : sT (wN s 23) (sN s) = 23 := if_pos rfl
  have t2 : sT (wN (wR (onesS (wN s 23) (sN s) 10) 10 t 1 (some (sN s))) 24) t = 10 := by
    show (if t = sN s + 1 then 24 else sT (wN s 23) t) = 10
    rw [if_neg (by omega)]; exact t1
  refine V.aload_n (i := 0) dX9_init_0 rfl rfl ?_
  refine V.objInit dX9_init_1 wm_X9_3 wi_objectInit wc_objectInit (Nat.le_of_ble_eq_true rfl) (by decide) ?_
  refine V.aload_n (i := 0) dX9_init_4 rfl rfl ?_
  refine V.bipush dX9_init_5 bc_10 ?_
  refine V.newa 23 dX9_init_7 rfl wa_int (by decide) (by decide) rfl (by decide) (by decide) (by decide) ?_
  refine V.dup dX9_init_9 rfl ?_
  refine V.iconst dX9_init_10 ic_0 ?_
  refine V.iconst dX9_init_11 ic_1 ?_
  refine V.iast (t := 23) dX9_init_12 tw (by decide) rfl rfl (show _ < 10 from (by omega)) (by decide) ?_
  refine V.dup dX9_init_13 rfl ?_
  refine V.iconst dX9_init_14 ic_1 ?_
  refine V.iconst dX9_init_15 ic_1 ?_
  refine V.iast (t := 23) dX9_init_16 tw (by decide) rfl rfl (show _ < 10 from (by omega)) (by decide) ?_
  refine V.dup dX9_init_17 rfl ?_
  refine V.iconst dX9_init_18 ic_2 ?_
  refine V.iconst dX9_init_19 ic_1 ?_
  refine V.iast (t := 23) dX9_init_20 tw (by decide) rfl rfl (show _ < 10 from (by omega)) (by decide) ?_
  refine V.dup dX9_init_21 rfl ?_
  refine V.iconst dX9_init_22 ic_3 ?_
  refine V.iconst dX9_init_23 ic_1 ?_
  refine V.iast (t := 23) dX9_init_24 tw (by decide) rfl rfl (show _ < 10 from (by omega)) (by decide) ?_
  refine V.dup dX9_init_25 rfl ?_
  refine V.iconst dX9_init_26 ic_4 ?_
  refine V.iconst dX9_init_27 ic_1 ?_
  refine V.iast (t := 23) dX9_init_28 tw (by decide) rfl rfl (show _ < 10 from (by omega)) (by decide) ?_
  refine V.dup dX9_init_29 rfl ?_
  refine V.iconst dX9_init_30 ic_5 ?_
  refine V.iconst dX9_init_31 ic_1 ?_
  refine V.iast (t := 23) dX9_init_32 tw (by decide) rfl rfl (show _ < 10 from (by omega)) (by decide) ?_
  refine V.dup dX9_init_33 rfl ?_
  refine V.bipush dX9_init_34 bc_6 ?_
  refine V.iconst dX9_init_36 ic_1 ?_
  refine V.iast (t := 23) dX9_init_37 tw (by decide) rfl rfl (show _ < 10 from (by omega)) (by decide) ?_
  refine V.dup dX9_init_38 rfl ?_
  refine V.bipush dX9_init_39 bc_7 ?_
  refine V.iconst dX9_init_41 ic_1 ?_
  refine V.iast (t := 23) dX9_init_42 tw (by decide) rfl rfl (show _ < 10 from (by omega)) (by decide) ?_
  refine V.dup dX9_init_43 rfl ?_
  refine V.bipush dX9_init_44 bc_8 ?_
  refine V.iconst dX9_init_46 ic_1 ?_
  refine V.iast (t := 23) dX9_init_47 tw (by decide) rfl rfl (show _ < 10 from (by omega)) (by decide) ?_
  refine V.dup dX9_init_48 rfl ?_
  refine V.bipush dX9_init_49 bc_9 ?_
  refine V.iconst dX9_init_51 ic_1 ?_
  refine V.iast (t := 23) dX9_init_52 tw (by decide) rfl rfl (show _ < 10 from (by omega)) (by decide) ?_
  refine V.putFr dX9_init_53 fl_X9_9 rfl rfl rfl rfl t1 ?_
  refine V.sts (σ' := wR (onesS (wN s 23) (sN s) 10) 10 t 1 (some (sN s))) rfl ?_
  refine V.aload_n (i := 0) dX9_init_56 rfl rfl ?_
  refine V.iconst dX9_init_57 ic_4 ?_
  refine V.newa 24 dX9_init_58 rfl wa_int (by decide) (by decide) rfl (by decide) (by decide) (by decide) ?_
  refine V.putFr dX9_init_60 fl_X9_15 rfl rfl rfl rfl t2 ?_
  refine V.aload_n (i := 0) dX9_init_63 rfl rfl ?_
  refine V.bipush dX9_init_64 bc_99 ?_
  refine V.puti dX9_init_66 fl_X9_18 rfl rfl t2 ?_
  refine V.aload_n (i := 0) dX9_init_69 rfl rfl ?_
  refine V.iload_n (i := 1) dX9_init_70 rfl rfl ?_
  refine V.putFi dX9_init_71 fl_X9_22 rfl rfl rfl rfl t2 ?_
  refine V.vret dX9_init_74 (Nat.le_of_ble_eq_true rfl) (Nat.le_of_ble_eq_true rfl) ?_
  exact hp
theorem ty_nw {on : Int32} : nw σ (tyS (wN σ 10) (sN σ) on) := by
  have h1 : nw σ (onesS (wN (wN σ 10) 23) (sN (wN σ 10)) 10) := onesS_nw ((nw.rfl'.N 10).N 23) (by rw [sN_wN]; omega) 10
  exact ((((h1.R (Nat.le_refl _)).N 24).R (Nat.le_refl _)).I (Nat.le_refl _)).I (Nat.le_refl _)
theorem ty_T {on : Int32} : sT (tyS (wN σ 10) (sN σ) on) (sN σ) = 10 ∧ sT (tyS (wN σ 10) (sN σ) on) (sN σ + 1) = 23 ∧ sT (tyS (wN σ 10) (sN σ) on) (sN σ + 2) = 24 := by
  refine ⟨?_, ?_, ?_⟩
  · show (if sN σ = sN σ + 1 + 1 then 24 else if sN σ = sN σ + 1 then 23 else if sN σ = sN σ then 10 else sT σ (sN σ)) = 10
    rw [if_neg (by omega), if_neg (by omega), if_pos rfl]
  · show (if sN σ + 1 = sN σ + 1 + 1 then 24 else if sN σ + 1 = sN σ + 1 then 23 else sT (wN σ 10) (sN σ + 1)) = 23
    rw [if_neg (by omega), if_pos rfl]
  · exact if_pos rfl
theorem ty_R {on : Int32} : sR (tyS (wN σ 10) (sN σ) on) 10 (sN σ) 1 = some (sN σ + 1) ∧ sR (tyS (wN σ 10) (sN σ) on) 10 (sN σ) 2 = some (sN σ + 2) := by
  refine ⟨?_, ?_⟩ <;> simp [tyS, sR_wI, sR_wR, sR_wN, sN_wI, sN_wR, sN_wN, Nat.add_assoc]
theorem ty_I {on : Int32} : sI (tyS (wN σ 10) (sN σ) on) 10 (sN σ) 0 = on ∧ sI (tyS (wN σ 10) (sN σ) on) 10 (sN σ) 3 = nI 99 ∧ (∀ k, k < 10 → sI (tyS (wN σ 10) (sN σ) on) 23 (sN σ + 1) k = nI 1) ∧ (∀ k, sI (tyS (wN σ 10) (sN σ) on) 24 (sN σ + 2) k = nI 0) := by
  refine ⟨?_, ?_, fun k hk => ?_, fun k => ?_⟩
  · unfold tyS; rw [sI_wI, if_pos ⟨rfl, rfl, rfl⟩]
  · unfold tyS; rw [sI_wI, if_neg (by simp), sI_wI, if_pos ⟨rfl, rfl, rfl⟩]
  · unfold tyS
    rw [sI_wI, if_neg (by simp), sI_wI, if_neg (by simp), sI_wR, sI_wN, if_neg (by simp), sI_wR]
    show sI (onesS (wN (wN σ 10) 23) (sN σ + 1) 10) 23 (sN σ + 1) k = _
    rw [onesS_at, if_pos hk]
  · unfold tyS
    rw [sI_wI, if_neg (by simp), sI_wI, if_neg (by simp), sI_wR, sI_wN]
    exact if_pos ⟨rfl, rfl⟩
/-- the rows that reading begins with -/
def iniG (G : GS) : GS := ini4 (ini10 (u2 G 23 (nTr G) (nI 99)) (nTr G) 10) (nTr G) 4
theorem ini10_at (G : GS) (t : Nat) : ∀ k j, ini10 G t k 24 j = if 10 * t ≤ j ∧ j < 10 * t + k then nI 1 else G 24 j
  | 0, j => by rw [if_neg (by omega)]; rfl
  | k + 1, j => by
    unfold ini10
    rw [u2_at, ini10_at G t k j]
    by_cases e : j = 10 * t + k
    · rw [if_pos e, if_pos (by omega)]
    · rw [if_neg e]
      by_cases q : 10 * t ≤ j ∧ j < 10 * t + k
      · rw [if_pos q, if_pos (by omega)]
      · rw [if_neg q, if_neg (by omega)]
theorem ini4_at (G : GS) (t : Nat) : ∀ k j, ini4 G t k 25 j = if 4 * t ≤ j ∧ j < 4 * t + k then nI 0 else G 25 j
  | 0, j => by rw [if_neg (by omega)]; rfl
  | k + 1, j => by
    unfold ini4
    rw [u2_at, ini4_at G t k j]
    by_cases e : j = 4 * t + k
    · rw [if_pos e, if_pos (by omega)]
    · rw [if_neg e]
      by_cases q : 4 * t ≤ j ∧ j < 4 * t + k
      · rw [if_pos q, if_pos (by omega)]
      · rw [if_neg q, if_neg (by omega)]
theorem iniG_row (G : GS) {r : Nat} (h1 : r ≠ 23) (h2 : r ≠ 24) (h3 : r ≠ 25) : iniG G r = G r := by
  unfold iniG
  rw [ini4_row _ _ _ _ h3, ini10_row _ _ _ _ h2, u2_row h1]
theorem iniG_23 (G : GS) (j : Nat) : iniG G 23 j = if j = nTr G then nI 99 else G 23 j := by
  unfold iniG
  rw [ini4_row _ _ _ _ (by decide), ini10_row _ _ _ _ (by decide), u2_at]
theorem iniG_24 (G : GS) (j : Nat) : iniG G 24 j = if 10 * nTr G ≤ j ∧ j < 10 * nTr G + 10 then nI 1 else G 24 j := by
  unfold iniG
  rw [ini4_row _ _ _ _ (by decide), ini10_at, u2_row (by decide)]
theorem iniG_25 (G : GS) (j : Nat) : iniG G 25 j = if 4 * nTr G ≤ j ∧ j < 4 * nTr G + 4 then nI 0 else G 25 j := by
  unfold iniG
  rw [ini4_at, ini10_row _ _ _ _ (by decide), u2_row (by decide)]
theorem iniG_nTr (G : GS) : nTr (iniG G) = nTr G := nTr_row (iniG_row G (by decide) (by decide) (by decide))
/-- elder treaties stay as they were -/
def eld (G G' : GS) : Prop := (∀ j, j < nTr G → G' 23 j = G 23 j) ∧ (∀ j, j < 10 * nTr G → G' 24 j = G 24 j) ∧ (∀ j, j < 4 * nTr G → G' 25 j = G 25 j)
theorem tellK_lt (G : GS) (t f of : Nat) {j : Nat} (h : j < 4 * t) : ∀ k, tellK G t f of k 25 j = G 25 j
  | 0 => rfl
  | k + 1 => by
    unfold tellK
    rw [u2_at, if_neg (by omega)]
    exact tellK_lt G t f of h k
theorem eld_row {G1 : GS} (a e : Nat) (hn : nTr G1 = nTr G) (h : eld G G1) : eld G (rowTells G1 a e) := by
  unfold rowTells
  rw [hn]
  split
  · refine ⟨fun j hj => ?_, fun j hj => (congrFun (u2_row (by decide)) j).trans (h.2.1 j hj), fun j hj => (congrFun (u2_row (by decide)) j).trans (h.2.2 j hj)⟩
    rw [u2_at, if_neg (by omega)]; exact h.1 j hj
  · split
    · refine ⟨fun j hj => (congrFun (u2_row (by decide)) j).trans (h.1 j hj), fun j hj => ?_, fun j hj => (congrFun (u2_row (by decide)) j).trans (h.2.2 j hj)⟩
      rw [u2_at, if_neg (by omega)]; exact h.2.1 j hj
    · refine ⟨fun j hj => (congrFun (tellK_row _ _ _ _ _ _ (by decide)) j).trans (h.1 j hj), fun j hj => (congrFun (tellK_row _ _ _ _ _ _ (by decide)) j).trans (h.2.1 j hj), fun j hj => ?_⟩
      rw [tellK_lt _ _ _ _ hj]; exact h.2.2 j hj
theorem eld_rd : ∀ m a (G1 : GS), nTr G1 = nTr G → eld G G1 → eld G (rd m G1 a).2
  | 0, a, G1, _, h => h
  | m + 1, a, G1, hn, h => by
    unfold rd
    split
    · exact h
    · split
      · exact h
      · exact eld_rd m _ _ ((nTr_row (rowTells_row _ _ _ _ (by decide) (by decide) (by decide))).trans hn) (eld_row _ _ hn h)
theorem eld_all (G : GS) : eld G (readAll G).2 := by
  refine eld_rd 61 0 (iniG G) (iniG_nTr G) ⟨fun j hj => ?_, fun j hj => ?_, fun j hj => ?_⟩
  · rw [iniG_23, if_neg (by omega)]
  · rw [iniG_24, if_neg (by omega)]
  · rw [iniG_25, if_neg (by omega)]
end TREATY2

