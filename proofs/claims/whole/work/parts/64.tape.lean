/-! ===== the class: a treaty is read off the tape ===== -/
section TAPE
variable {E : VE} {σ s s' : Sg} {G : GS} {x : Nat} {P : PT} {post : Option Value → Sg → Prop} {N0 a : Nat}
/-- below N0 only the place of reading may change; tags and references stay -/
def rdF (N0 : Nat) (s s' : Sg) : Prop := (∀ b, sT s' b = sT s b) ∧ (∀ t b k, sR s' t b k = sR s t b k) ∧ (∀ u b k, b < N0 → ¬ (u = 8 ∧ k = 2) → sI s' u b k = sI s u b k) ∧ sG s' = sG s ∧ sN s' = sN s ∧ ∀ b, sI s' 10 b 0 = sI s 10 b 0
theorem rdF.rfl' : rdF N0 s s := ⟨fun _ => rfl, fun _ _ _ => rfl, fun _ _ _ _ _ => rfl, rfl, rfl, fun _ => rfl⟩
theorem rdF.trans {s2 : Sg} (f : rdF N0 s s') (g : rdF N0 s' s2) : rdF N0 s s2 := ⟨fun b => (g.1 b).trans (f.1 b), fun t b k => (g.2.1 t b k).trans (f.2.1 t b k), fun u b k h1 h2 => (g.2.2.1 u b k h1 h2).trans (f.2.2.1 u b k h1 h2), g.2.2.2.1.trans f.2.2.2.1, g.2.2.2.2.1.trans f.2.2.2.2.1, fun b => (g.2.2.2.2.2 b).trans (f.2.2.2.2.2 b)⟩
theorem rdF.at {b : Nat} {v : Int32} : rdF N0 s (wI s 8 b 2 v) := ⟨fun _ => rfl, fun _ _ _ => rfl, fun u b' k _ h2 => by rw [sI_wI, if_neg (fun z => h2 ⟨z.1, z.2.2⟩)], rfl, rfl, fun b' => by rw [sI_wI, if_neg (by simp)]⟩
theorem rdF.new {t b k : Nat} {v : Int32} (h : N0 ≤ b) (h0 : ¬ (t = 10 ∧ k = 0) := by simp) : rdF N0 s (wI s t b k v) := ⟨fun _ => rfl, fun _ _ _ => rfl, fun u b' k h1 _ => by rw [sI_wI, if_neg (fun z => by omega)], rfl, rfl, fun b' => by rw [sI_wI, if_neg (fun z => h0 ⟨z.1.symm, z.2.2.symm⟩)]⟩
/-- the tape with the place of reading -/
def TP (N0 : Nat) (s : Sg) (P : PT) (G : GS) (a : Nat) : Prop := (P 0 6 < N0 ∧ P 0 7 < N0) ∧ sT s (P 0 6) = 8 ∧ sR s 8 (P 0 6) 0 = some (P 0 7) ∧ sT s (P 0 7) = 22 ∧ sI s 8 (P 0 6) 1 = nI (nTp G) ∧ sI s 8 (P 0 6) 2 = nI a ∧ (∀ j, j < 60 → sI s 22 (P 0 7) j = G 20 j) ∧ nTp G ≤ 60
/-- the treaty under way -/
def TT (N0 : Nat) (s : Sg) (t w g : Nat) (G : GS) : Prop := (N0 ≤ t ∧ N0 ≤ w ∧ N0 ≤ g) ∧ sT s t = 10 ∧ sR s 10 t 1 = some w ∧ sT s w = 23 ∧ sR s 10 t 2 = some g ∧ sT s g = 24 ∧ sI s 10 t 3 = G 23 (nTr G) ∧ (∀ k, k < 10 → sI s 23 w k = G 24 (10 * nTr G + k)) ∧ (∀ k, k < 4 → sI s 24 g k = G 25 (4 * nTr G + k))
theorem TP.rows {G' : GS} (h : TP N0 s P G a) (e19 : G' 19 = G 19) (e20 : G' 20 = G 20) : TP N0 s P G' a := by
  unfold TP at h ⊢
  rw [show nTp G' = nTp G from gN_e e19 0, e20]
  exact h
theorem TP.f {b : Nat} (h : TP N0 s P G a) (f : rdF N0 s s') (hb : sI s' 8 (P 0 6) 2 = nI b) : TP N0 s' P G b :=
  ⟨h.1, (f.1 _).trans h.2.1, (f.2.1 _ _ _).trans h.2.2.1, (f.1 _).trans h.2.2.2.1, (f.2.2.1 _ _ _ h.1.1 (by decide)).trans h.2.2.2.2.1, hb, fun j hj => (f.2.2.1 _ _ _ h.1.2 (fun z => absurd z.1 (by decide))).trans (h.2.2.2.2.2.2.1 j hj), h.2.2.2.2.2.2.2⟩
theorem TP.go (h : TP N0 s P G a) : TP N0 (wI s 8 (P 0 6) 2 (nI (a + 1))) P G (a + 1) := h.f rdF.at (by rw [sI_wI, if_pos ⟨rfl, rfl, rfl⟩])
theorem TT.go {t w g b : Nat} {v : Int32} (h : TT N0 s t w g G) : TT N0 (wI s 8 b 2 v) t w g G :=
  ⟨h.1, h.2.1, h.2.2.1, h.2.2.2.1, h.2.2.2.2.1, h.2.2.2.2.2.1, by rw [sI_wI, if_neg (by simp)]; exact h.2.2.2.2.2.2.1, fun k hk => by rw [sI_wI, if_neg (by simp)]; exact h.2.2.2.2.2.2.2.1 k hk, fun k hk => by rw [sI_wI, if_neg (by simp)]; exact h.2.2.2.2.2.2.2.2 k hk⟩
set_option maxRecDepth 100000 in
theorem k_takeY (h : TP N0 s P G a) (b : Nat) (hb : b < 256) (hy : isByt G a b = true) (hp : post (some (.int (b2 (isByt G a b = true)))) (wI s 8 (P 0 6) 2 (nI (a + 1)))) : MX7_take E 1 0 0 [.ref (P 0 6), .int (nI b)] s post := by
  refine MA.of RX7 "take" [some (.ref (P 0 6)), some (.int (nI b))] rfl rfl rfl (catAll rfl) (Nat.le_of_ble_eq_true rfl) rfl (fun X => ?_)
  obtain ⟨h0, h1, h2, h3, h4, h5, h6, h7⟩ := h
  have hy2 := of_decide_eq_true hy
  refine V.aload_n (i := 0) dX7_take_0 rfl rfl ?_
  refine V.geti dX7_take_1 fl_X7_19 rfl h1 ?_
  refine V.as _ h5 ?_
  refine V.aload_n (i := 0) dX7_take_4 rfl rfl ?_
  refine V.geti dX7_take_5 fl_X7_15 rfl h1 ?_
  refine V.as _ h4 ?_
  refine V.icmp_geF (tgt := 24) dX7_take_8 rfl (nI_ge (by omega) (by omega)) ?_
  refine V.aload_n (i := 0) dX7_take_11 rfl rfl ?_
  refine V.getS dX7_take_12 fl_X7_9 rfl h1 h2 ?_
  refine V.aload_n (i := 0) dX7_take_15 rfl rfl ?_
  refine V.geti dX7_take_16 fl_X7_19 rfl h1 ?_
  refine V.as _ h5 ?_
  refine V.iald (t := 22) dX7_take_19 h3 (by decide) rfl rfl (show _ < 60 from (by omega)) (by decide) ?_
  refine V.as (nI b) ((h6 a (by omega)).trans hy2.2) ?_
  refine V.iload_n (i := 1) dX7_take_20 rfl rfl ?_
  refine V.icmp_eqT (tgt := 26) dX7_take_21 rfl rfl ?_
  refine V.aload_n (i := 0) dX7_take_26 rfl rfl ?_
  refine V.dup dX7_take_27 rfl ?_
  refine V.geti dX7_take_28 fl_X7_19 rfl h1 ?_
  refine V.as _ h5 ?_
  refine V.iconst dX7_take_31 ic_1 ?_
  refine V.iadd dX7_take_32 ?_
  refine V.as _ (nI_add _ _) ?_
  refine V.puti dX7_take_33 fl_X7_19 rfl rfl h1 ?_
  refine V.iconst dX7_take_36 ic_1 ?_
  refine V.zret dX7_take_37 (by decide) (Nat.le_of_ble_eq_true rfl) (Nat.le_of_ble_eq_true rfl) ?_
  exact b2_ret1 hy hp
set_option maxRecDepth 100000 in
theorem k_takeN (h : TP N0 s P G a) (ha : a < 2 ^ 31) (b : Nat) (hy : isByt G a b = false) (hp : post (some (.int (b2 (isByt G a b = true)))) s) : MX7_take E 1 0 0 [.ref (P 0 6), .int (nI b)] s post := by
  refine MA.of RX7 "take" [some (.ref (P 0 6)), some (.int (nI b))] rfl rfl rfl (catAll rfl) (Nat.le_of_ble_eq_true rfl) rfl (fun X => ?_)
  obtain ⟨h0, h1, h2, h3, h4, h5, h6, h7⟩ := h
  have hy2 := of_decide_eq_false hy
  refine V.aload_n (i := 0) dX7_take_0 rfl rfl ?_
  refine V.geti dX7_take_1 fl_X7_19 rfl h1 ?_
  refine V.as _ h5 ?_
  refine V.aload_n (i := 0) dX7_take_4 rfl rfl ?_
  refine V.geti dX7_take_5 fl_X7_15 rfl h1 ?_
  refine V.as _ h4 ?_
  refine V.icmp_ge (tgt := 24) dX7_take_8 rfl (fun c8 => ?_) (fun c8 => ?_)
  · rw [nI_leI (by omega) (by omega)] at c8
    refine V.iconst dX7_take_24 ic_0 ?_
    refine V.zret dX7_take_25 (by decide) (Nat.le_of_ble_eq_true rfl) (Nat.le_of_ble_eq_true rfl) ?_
    exact b2_ret0 (by rw [hy]; decide) hp
  · rw [nI_leI (by omega) (by omega)] at c8
    refine V.aload_n (i := 0) dX7_take_11 rfl rfl ?_
    refine V.getS dX7_take_12 fl_X7_9 rfl h1 h2 ?_
    refine V.aload_n (i := 0) dX7_take_15 rfl rfl ?_
    refine V.geti dX7_take_16 fl_X7_19 rfl h1 ?_
    refine V.as _ h5 ?_
    refine V.iald (t := 22) dX7_take_19 h3 (by decide) rfl rfl (show _ < 60 from (by omega)) (by decide) ?_
    refine V.as _ (h6 a (by omega)) ?_
    refine V.iload_n (i := 1) dX7_take_20 rfl rfl ?_
    refine V.icmp_eqF (tgt := 26) dX7_take_21 rfl (fun z => hy2 ⟨by omega, z⟩) ?_
    refine V.iconst dX7_take_24 ic_0 ?_
    refine V.zret dX7_take_25 (by decide) (Nat.le_of_ble_eq_true rfl) (Nat.le_of_ble_eq_true rfl) ?_
    exact b2_ret0 (by rw [hy]; decide) hp
set_option maxRecDepth 100000 in
theorem k_digitY (h : TP N0 s P G a) (hy : isDig G a = true) (hp : post (some (.int (nI (dgt G a)))) (wI s 8 (P 0 6) 2 (nI (a + 1)))) : MX7_takeDigit E 1 0 0 [.ref (P 0 6)] s post := by
  refine MA.of RX7 "takeDigit" [some (.ref (P 0 6))] rfl rfl rfl (catAll rfl) (Nat.le_of_ble_eq_true rfl) rfl (fun X => ?_)
  obtain ⟨h0, h1, h2, h3, h4, h5, h6, h7⟩ := h
  have hy2 := of_decide_eq_true hy
  have hd := dig_sub hy
  have h6a := h6 a (by omega)
  refine V.aload_n (i := 0) dX7_takeDigit_0 rfl rfl ?_
  refine V.geti dX7_takeDigit_1 fl_X7_19 rfl h1 ?_
  refine V.as _ h5 ?_
  refine V.aload_n (i := 0) dX7_takeDigit_4 rfl rfl ?_
  refine V.geti dX7_takeDigit_5 fl_X7_15 rfl h1 ?_
  refine V.as _ h4 ?_
  refine V.icmp_geF (tgt := 39) dX7_takeDigit_8 rfl (nI_ge (by omega) (by omega)) ?_
  refine V.aload_n (i := 0) dX7_takeDigit_11 rfl rfl ?_
  refine V.getS dX7_takeDigit_12 fl_X7_9 rfl h1 h2 ?_
  refine V.aload_n (i := 0) dX7_takeDigit_15 rfl rfl ?_
  refine V.geti dX7_takeDigit_16 fl_X7_19 rfl h1 ?_
  refine V.as _ h5 ?_
  refine V.iald (t := 22) dX7_takeDigit_19 h3 (by decide) rfl rfl (show _ < 60 from (by omega)) (by decide) ?_
  refine V.as _ h6a ?_
  refine V.bipush dX7_takeDigit_20 bc_48 ?_
  refine V.icmp_ltF (tgt := 39) dX7_takeDigit_22 rfl (by rw [fa_lt, toI _ (by decide)]; omega) ?_
  refine V.aload_n (i := 0) dX7_takeDigit_25 rfl rfl ?_
  refine V.getS dX7_takeDigit_26 fl_X7_9 rfl h1 h2 ?_
  refine V.aload_n (i := 0) dX7_takeDigit_29 rfl rfl ?_
  refine V.geti dX7_takeDigit_30 fl_X7_19 rfl h1 ?_
  refine V.as _ h5 ?_
  refine V.iald (t := 22) dX7_takeDigit_33 h3 (by decide) rfl rfl (show _ < 60 from (by omega)) (by decide) ?_
  refine V.as _ h6a ?_
  refine V.bipush dX7_takeDigit_34 bc_57 ?_
  refine V.icmp_leT (tgt := 41) dX7_takeDigit_36 rfl (by rw [fa_le, toI _ (by decide)]; omega) ?_
  refine V.aload_n (i := 0) dX7_takeDigit_41 rfl rfl ?_
  refine V.dup dX7_takeDigit_42 rfl ?_
  refine V.geti dX7_takeDigit_43 fl_X7_19 rfl h1 ?_
  refine V.as _ h5 ?_
  refine V.iconst dX7_takeDigit_46 ic_1 ?_
  refine V.iadd dX7_takeDigit_47 ?_
  refine V.as _ (nI_add _ _) ?_
  refine V.puti dX7_takeDigit_48 fl_X7_19 rfl rfl h1 ?_
  refine V.sts (σ' := wI s 8 (P 0 6) 2 (nI (a + 1))) rfl ?_
  refine V.aload_n (i := 0) dX7_takeDigit_51 rfl rfl ?_
  refine V.getS dX7_takeDigit_52 fl_X7_9 rfl h1 h2 ?_
  refine V.aload_n (i := 0) dX7_takeDigit_55 rfl rfl ?_
  refine V.geti dX7_takeDigit_56 fl_X7_19 rfl h1 ?_
  refine V.as (nI (a + 1)) (by rw [sI_wI, if_pos ⟨rfl, rfl, rfl⟩]) ?_
  refine V.iconst dX7_takeDigit_59 ic_1 ?_
  refine V.isub dX7_takeDigit_60 ?_
  refine V.as (nI a) (show nI (a + 1) - nI 1 = _ from pk_sub (by omega)) ?_
  refine V.iald (t := 22) dX7_takeDigit_61 h3 (by decide) rfl rfl (show _ < 60 from (by omega)) (by decide) ?_
  refine V.as (G 20 a) (by rw [sI_wI, if_neg (by simp)]; exact h6a) ?_
  refine V.bipush dX7_takeDigit_62 bc_48 ?_
  refine V.isub dX7_takeDigit_64 ?_
  refine V.as _ hd.1 ?_
  refine V.iret dX7_takeDigit_65 (Nat.le_of_ble_eq_true rfl) (Nat.le_of_ble_eq_true rfl) ?_
  exact hp
set_option maxRecDepth 100000 in
theorem k_digitN (h : TP N0 s P G a) (ha : a < 2 ^ 31) (hy : isDig G a = false) (hp : post (some (.int (-1))) s) : MX7_takeDigit E 1 0 0 [.ref (P 0 6)] s post := by
  refine MA.of RX7 "takeDigit" [some (.ref (P 0 6))] rfl rfl rfl (catAll rfl) (Nat.le_of_ble_eq_true rfl) rfl (fun X => ?_)
  obtain ⟨h0, h1, h2, h3, h4, h5, h6, h7⟩ := h
  have hy2 := of_decide_eq_false hy
  refine V.aload_n (i := 0) dX7_takeDigit_0 rfl rfl ?_
  refine V.geti dX7_takeDigit_1 fl_X7_19 rfl h1 ?_
  refine V.as _ h5 ?_
  refine V.aload_n (i := 0) dX7_takeDigit_4 rfl rfl ?_
  refine V.geti dX7_takeDigit_5 fl_X7_15 rfl h1 ?_
  refine V.as _ h4 ?_
  refine V.icmp_ge (tgt := 39) dX7_takeDigit_8 rfl (fun c8 => ?_) (fun c8 => ?_)
  · rw [nI_leI (by omega) (by omega)] at c8
    refine V.iconst dX7_takeDigit_39 ic_m1 ?_
    refine V.iret dX7_takeDigit_40 (Nat.le_of_ble_eq_true rfl) (Nat.le_of_ble_eq_true rfl) ?_
    exact hp
  · rw [nI_leI (by omega) (by omega)] at c8
    refine V.aload_n (i := 0) dX7_takeDigit_11 rfl rfl ?_
    refine V.getS dX7_takeDigit_12 fl_X7_9 rfl h1 h2 ?_
    refine V.aload_n (i := 0) dX7_takeDigit_15 rfl rfl ?_
    refine V.geti dX7_takeDigit_16 fl_X7_19 rfl h1 ?_
    refine V.as _ h5 ?_
    refine V.iald (t := 22) dX7_takeDigit_19 h3 (by decide) rfl rfl (show _ < 60 from (by omega)) (by decide) ?_
    refine V.as _ (h6 a (by omega)) ?_
    refine V.bipush dX7_takeDigit_20 bc_48 ?_
    refine V.icmp_lt (tgt := 39) dX7_takeDigit_22 rfl (fun c22 => ?_) (fun c22 => ?_)
    · rw [fa_lt, toI _ (by decide)] at c22
      refine V.iconst dX7_takeDigit_39 ic_m1 ?_
      refine V.iret dX7_takeDigit_40 (Nat.le_of_ble_eq_true rfl) (Nat.le_of_ble_eq_true rfl) ?_
      exact hp
    · rw [fa_lt, toI _ (by decide)] at c22
      refine V.aload_n (i := 0) dX7_takeDigit_25 rfl rfl ?_
      refine V.getS dX7_takeDigit_26 fl_X7_9 rfl h1 h2 ?_
      refine V.aload_n (i := 0) dX7_takeDigit_29 rfl rfl ?_
      refine V.geti dX7_takeDigit_30 fl_X7_19 rfl h1 ?_
      refine V.as _ h5 ?_
      refine V.iald (t := 22) dX7_takeDigit_33 h3 (by decide) rfl rfl (show _ < 60 from (by omega)) (by decide) ?_
      refine V.as _ (h6 a (by omega)) ?_
      refine V.bipush dX7_takeDigit_34 bc_57 ?_
      refine V.icmp_leF (tgt := 41) dX7_takeDigit_36 rfl (by rw [fa_le, toI _ (by decide)]; intro z; exact hy2 ⟨by omega, by omega, z⟩) ?_
      refine V.iconst dX7_takeDigit_39 ic_m1 ?_
      refine V.iret dX7_takeDigit_40 (Nat.le_of_ble_eq_true rfl) (Nat.le_of_ble_eq_true rfl) ?_
      exact hp
set_option maxRecDepth 100000 in
theorem k_kindY (h : TP N0 s P G a) {k : Nat} (hy : kAt G a = some k) (hp : post (some (.int (nI k))) (wI s 8 (P 0 6) 2 (nI (a + 1)))) : MX7_takeKind E 2 0 0 [.ref (P 0 6)] s post := by
  refine MA.of RX7 "takeKind" [some (.ref (P 0 6))] rfl rfl rfl (catAll rfl) (Nat.le_of_ble_eq_true rfl) rfl (fun X => ?_)
  have ha := (kAt_lt hy).2
  have h7 := h.2.2.2.2.2.2.2
  unfold kAt at hy
  by_cases q1 : isByt G a 115 = true
  · rw [if_pos q1] at hy
    cases hy
    refine V.aload_n (i := 0) dX7_takeKind_0 rfl rfl ?_
    refine V.bipush dX7_takeKind_1 bc_115 ?_
    refine V.cv1D (ci := 7) dX7_takeKind_3 lk_X7_26 (by decide) rfl h.2.1 (k_takeY h 115 (by decide) q1 ⟨rfl, rfl⟩) (by decide) (by decide) (Nat.le_of_ble_eq_true rfl) (Nat.le_of_ble_eq_true rfl) (Nat.le_of_ble_eq_true rfl) ?_
    refine V.ifb_eqF (tgt := 11) dX7_takeKind_6 rfl q1 ?_
    refine V.iconst dX7_takeKind_9 ic_0 ?_
    refine V.iret dX7_takeKind_10 (Nat.le_of_ble_eq_true rfl) (Nat.le_of_ble_eq_true rfl) ?_
    exact hp
  · rw [if_neg q1] at hy
    replace q1 : isByt G a 115 = false := by simpa using q1
    by_cases q2 : isByt G a 116 = true
    · rw [if_pos q2] at hy
      cases hy
      refine V.aload_n (i := 0) dX7_takeKind_0 rfl rfl ?_
      refine V.bipush dX7_takeKind_1 bc_115 ?_
      refine V.cv1D (ci := 7) dX7_takeKind_3 lk_X7_26 (by decide) rfl h.2.1 (k_takeN h (by omega) 115 q1 ⟨rfl, rfl⟩) (by decide) (by decide) (Nat.le_of_ble_eq_true rfl) (Nat.le_of_ble_eq_true rfl) (Nat.le_of_ble_eq_true rfl) ?_
      refine V.ifb_eqT (tgt := 11) dX7_takeKind_6 rfl (by rw [q1]; decide) ?_
      refine V.aload_n (i := 0) dX7_takeKind_11 rfl rfl ?_
      refine V.bipush dX7_takeKind_12 bc_116 ?_
      refine V.cv1D (ci := 7) dX7_takeKind_14 lk_X7_26 (by decide) rfl h.2.1 (k_takeY h 116 (by decide) q2 ⟨rfl, rfl⟩) (by decide) (by decide) (Nat.le_of_ble_eq_true rfl) (Nat.le_of_ble_eq_true rfl) (Nat.le_of_ble_eq_true rfl) ?_
      refine V.ifb_eqF (tgt := 22) dX7_takeKind_17 rfl q2 ?_
      refine V.iconst dX7_takeKind_20 ic_1 ?_
      refine V.iret dX7_takeKind_21 (Nat.le_of_ble_eq_true rfl) (Nat.le_of_ble_eq_true rfl) ?_
      exact hp
    · rw [if_neg q2] at hy
      replace q2 : isByt G a 116 = false := by simpa using q2
      by_cases q3 : isByt G a 103 = true
      · rw [if_pos q3] at hy
        cases hy
        refine V.aload_n (i := 0) dX7_takeKind_0 rfl rfl ?_
        refine V.bipush dX7_takeKind_1 bc_115 ?_
        refine V.cv1D (ci := 7) dX7_takeKind_3 lk_X7_26 (by decide) rfl h.2.1 (k_takeN h (by omega) 115 q1 ⟨rfl, rfl⟩) (by decide) (by decide) (Nat.le_of_ble_eq_true rfl) (Nat.le_of_ble_eq_true rfl) (Nat.le_of_ble_eq_true rfl) ?_
        refine V.ifb_eqT (tgt := 11) dX7_takeKind_6 rfl (by rw [q1]; decide) ?_
        refine V.aload_n (i := 0) dX7_takeKind_11 rfl rfl ?_
        refine V.bipush dX7_takeKind_12 bc_116 ?_
        refine V.cv1D (ci := 7) dX7_takeKind_14 lk_X7_26 (by decide) rfl h.2.1 (k_takeN h (by omega) 116 q2 ⟨rfl, rfl⟩) (by decide) (by decide) (Nat.le_of_ble_eq_true rfl) (Nat.le_of_ble_eq_true rfl) (Nat.le_of_ble_eq_true rfl) ?_
        refine V.ifb_eqT (tgt := 22) dX7_takeKind_17 rfl (by rw [q2]; decide) ?_
        refine V.aload_n (i := 0) dX7_takeKind_22 rfl rfl ?_
        refine V.bipush dX7_takeKind_23 bc_103 ?_
        refine V.cv1D (ci := 7) dX7_takeKind_25 lk_X7_26 (by decide) rfl h.2.1 (k_takeY h 103 (by decide) q3 ⟨rfl, rfl⟩) (by decide) (by decide) (Nat.le_of_ble_eq_true rfl) (Nat.le_of_ble_eq_true rfl) (Nat.le_of_ble_eq_true rfl) ?_
        refine V.ifb_eqF (tgt := 33) dX7_takeKind_28 rfl q3 ?_
        refine V.iconst dX7_takeKind_31 ic_2 ?_
        refine V.iret dX7_takeKind_32 (Nat.le_of_ble_eq_true rfl) (Nat.le_of_ble_eq_true rfl) ?_
        exact hp
      · rw [if_neg q3] at hy
        replace q3 : isByt G a 103 = false := by simpa using q3
        by_cases q4 : isByt G a 102 = true
        · rw [if_pos q4] at hy
          cases hy
          refine V.aload_n (i := 0) dX7_takeKind_0 rfl rfl ?_
          refine V.bipush dX7_takeKind_1 bc_115 ?_
          refine V.cv1D (ci := 7) dX7_takeKind_3 lk_X7_26 (by decide) rfl h.2.1 (k_takeN h (by omega) 115 q1 ⟨rfl, rfl⟩) (by decide) (by decide) (Nat.le_of_ble_eq_true rfl) (Nat.le_of_ble_eq_true rfl) (Nat.le_of_ble_eq_true rfl) ?_
          refine V.ifb_eqT (tgt := 11) dX7_takeKind_6 rfl (by rw [q1]; decide) ?_
          refine V.aload_n (i := 0) dX7_takeKind_11 rfl rfl ?_
          refine V.bipush dX7_takeKind_12 bc_116 ?_
          refine V.cv1D (ci := 7) dX7_takeKind_14 lk_X7_26 (by decide) rfl h.2.1 (k_takeN h (by omega) 116 q2 ⟨rfl, rfl⟩) (by decide) (by decide) (Nat.le_of_ble_eq_true rfl) (Nat.le_of_ble_eq_true rfl) (Nat.le_of_ble_eq_true rfl) ?_
          refine V.ifb_eqT (tgt := 22) dX7_takeKind_17 rfl (by rw [q2]; decide) ?_
          refine V.aload_n (i := 0) dX7_takeKind_22 rfl rfl ?_
          refine V.bipush dX7_takeKind_23 bc_103 ?_
          refine V.cv1D (ci := 7) dX7_takeKind_25 lk_X7_26 (by decide) rfl h.2.1 (k_takeN h (by omega) 103 q3 ⟨rfl, rfl⟩) (by decide) (by decide) (Nat.le_of_ble_eq_true rfl) (Nat.le_of_ble_eq_true rfl) (Nat.le_of_ble_eq_true rfl) ?_
          refine V.ifb_eqT (tgt := 33) dX7_takeKind_28 rfl (by rw [q3]; decide) ?_
          refine V.aload_n (i := 0) dX7_takeKind_33 rfl rfl ?_
          refine V.bipush dX7_takeKind_34 bc_102 ?_
          refine V.cv1D (ci := 7) dX7_takeKind_36 lk_X7_26 (by decide) rfl h.2.1 (k_takeY h 102 (by decide) q4 ⟨rfl, rfl⟩) (by decide) (by decide) (Nat.le_of_ble_eq_true rfl) (Nat.le_of_ble_eq_true rfl) (Nat.le_of_ble_eq_true rfl) ?_
          refine V.ifb_eqF (tgt := 46) dX7_takeKind_39 rfl q4 ?_
          refine V.iconst dX7_takeKind_42 ic_3 ?_
          refine V.goto (tgt := 47) dX7_takeKind_43 rfl ?_
          refine V.iret dX7_takeKind_47 (Nat.le_of_ble_eq_true rfl) (Nat.le_of_ble_eq_true rfl) ?_
          exact hp
        · rw [if_neg q4] at hy
          cases hy
set_option maxRecDepth 100000 in
theorem k_kindN (h : TP N0 s P G a) (ha : a < 2 ^ 31) (hy : kAt G a = none) (hp : post (some (.int (-1))) s) : MX7_takeKind E 2 0 0 [.ref (P 0 6)] s post := by
  refine MA.of RX7 "takeKind" [some (.ref (P 0 6))] rfl rfl rfl (catAll rfl) (Nat.le_of_ble_eq_true rfl) rfl (fun X => ?_)
  have q : isByt G a 115 = false ∧ isByt G a 116 = false ∧ isByt G a 103 = false ∧ isByt G a 102 = false := by
    unfold kAt at hy
    cases q1 : isByt G a 115 <;> cases q2 : isByt G a 116 <;> cases q3 : isByt G a 103 <;> cases q4 : isByt G a 102 <;> simp_all
  refine V.aload_n (i := 0) dX7_takeKind_0 rfl rfl ?_
  refine V.bipush dX7_takeKind_1 bc_115 ?_
  refine V.cv1D (ci := 7) dX7_takeKind_3 lk_X7_26 (by decide) rfl h.2.1 (k_takeN h ha 115 q.1 ⟨rfl, rfl⟩) (by decide) (by decide) (Nat.le_of_ble_eq_true rfl) (Nat.le_of_ble_eq_true rfl) (Nat.le_of_ble_eq_true rfl) ?_
  refine V.ifb_eqT (tgt := 11) dX7_takeKind_6 rfl (by rw [q.1]; decide) ?_
  refine V.aload_n (i := 0) dX7_takeKind_11 rfl rfl ?_
  refine V.bipush dX7_takeKind_12 bc_116 ?_
  refine V.cv1D (ci := 7) dX7_takeKind_14 lk_X7_26 (by decide) rfl h.2.1 (k_takeN h ha 116 q.2.1 ⟨rfl, rfl⟩) (by decide) (by decide) (Nat.le_of_ble_eq_true rfl) (Nat.le_of_ble_eq_true rfl) (Nat.le_of_ble_eq_true rfl) ?_
  refine V.ifb_eqT (tgt := 22) dX7_takeKind_17 rfl (by rw [q.2.1]; decide) ?_
  refine V.aload_n (i := 0) dX7_takeKind_22 rfl rfl ?_
  refine V.bipush dX7_takeKind_23 bc_103 ?_
  refine V.cv1D (ci := 7) dX7_takeKind_25 lk_X7_26 (by decide) rfl h.2.1 (k_takeN h ha 103 q.2.2.1 ⟨rfl, rfl⟩) (by decide) (by decide) (Nat.le_of_ble_eq_true rfl) (Nat.le_of_ble_eq_true rfl) (Nat.le_of_ble_eq_true rfl) ?_
  refine V.ifb_eqT (tgt := 33) dX7_takeKind_28 rfl (by rw [q.2.2.1]; decide) ?_
  refine V.aload_n (i := 0) dX7_takeKind_33 rfl rfl ?_
  refine V.bipush dX7_takeKind_34 bc_102 ?_
  refine V.cv1D (ci := 7) dX7_takeKind_36 lk_X7_26 (by decide) rfl h.2.1 (k_takeN h ha 102 q.2.2.2 ⟨rfl, rfl⟩) (by decide) (by decide) (Nat.le_of_ble_eq_true rfl) (Nat.le_of_ble_eq_true rfl) (Nat.le_of_ble_eq_true rfl) ?_
  refine V.ifb_eqT (tgt := 46) dX7_takeKind_39 rfl (by rw [q.2.2.2]; decide) ?_
  refine V.iconst dX7_takeKind_46 ic_m1 ?_
  refine V.iret dX7_takeKind_47 (Nat.le_of_ble_eq_true rfl) (Nat.le_of_ble_eq_true rfl) ?_
  exact hp
end TAPE

