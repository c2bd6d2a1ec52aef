/-! ===== the model: of, and how treaties are read ===== -/
theorem smod31 : ∀ n, n < 32 → ((nI n &&& 31).toBitVec.smod 32).toNat = n := by decide
theorem sh1 {f : Nat} (h : f < 31) : nI 1 <<< (nI f &&& 31) = nI (2 ^ f) := by
  have h2 : 2 ^ f < 2 ^ 32 := Nat.pow_lt_pow_right (by decide) (by omega)
  rw [pk_shlN (n := 1) (nI f &&& 31) f (smod31 f (by omega)) (by omega), Nat.one_mul]
theorem dig_sub {G : GS} {a : Nat} (h : isDig G a = true) : G 20 a - nI 48 = nI (dgt G a) ∧ dgt G a ≤ 9 ∧ G 20 a = nI (dgt G a + 48) := by
  unfold isDig at h
  have h := of_decide_eq_true h
  obtain ⟨j, hj, e⟩ := nI_of (x := G 20 a) (by rw [lt0]; omega)
  have e2 : dgt G a = j - 48 := by unfold dgt gN; rw [e, nI_clamp hj]
  rw [e, toI j hj] at h
  have h3 : nI (dgt G a + 48) = nI j := by rw [e2]; congr 1; omega
  refine ⟨?_, by omega, by rw [h3]; exact e⟩
  rw [e, pk_sub (by omega), e2]
theorem rowOK {G : GS} {a e : Nat} (h : rowEnd G a = e) (hl : a + rowLeast G a ≤ e) : (G 20 a = nI 108 ∧ isDig G (a + 1) = true ∧ ((e = a + 3 ∧ isDig G (a + 2) = true) ∨ e = a + 2)) ∨ (G 20 a = nI 119 ∧ isDig G (a + 1) = true ∧ isDig G (a + 2) = true ∧ e = a + 3) ∨ (G 20 a = nI 103 ∧ isDig G (a + 1) = true ∧ kAt G (a + 2) ≠ none ∧ e = a + 3) := by
  unfold rowEnd at h
  unfold rowLeast at hl
  have hb : ∀ b, isByt G a b = true → G 20 a = nI b := fun b q => (of_decide_eq_true q).2
  by_cases b1 : isByt G a 108 = true
  · rw [if_pos b1] at h hl
    by_cases d1 : isDig G (a + 1) = true
    · rw [if_pos d1] at h
      by_cases d2 : isDig G (a + 2) = true
      · rw [if_pos d2] at h
        exact Or.inl ⟨hb _ b1, d1, Or.inl ⟨h.symm, d2⟩⟩
      · rw [if_neg d2] at h
        exact Or.inl ⟨hb _ b1, d1, Or.inr h.symm⟩
    · rw [if_neg d1] at h
      omega
  · rw [if_neg b1] at h hl
    by_cases b2 : isByt G a 119 = true
    · rw [if_pos b2] at h
      by_cases d1 : isDig G (a + 1) = true
      · rw [if_pos d1] at h
        by_cases d2 : isDig G (a + 2) = true
        · rw [if_pos d2] at h
          exact Or.inr (Or.inl ⟨hb _ b2, d1, d2, h.symm⟩)
        · rw [if_neg d2] at h
          omega
      · rw [if_neg d1] at h
        omega
    · rw [if_neg b2] at h
      by_cases b3 : isByt G a 103 = true
      · rw [if_pos b3] at h
        by_cases d1 : isDig G (a + 1) = true
        · rw [if_pos d1] at h
          by_cases d2 : kAt G (a + 2) = none
          · rw [if_pos d2] at h
            omega
          · rw [if_neg d2] at h
            exact Or.inr (Or.inr ⟨hb _ b3, d1, d2, h.symm⟩)
        · rw [if_neg d1] at h
          omega
      · rw [if_neg b3] at h
        omega
theorem kAt_lt {G : GS} {a k : Nat} (h : kAt G a = some k) : k < 4 ∧ a < nTp G := by
  unfold kAt at h
  have hb : ∀ b, isByt G a b = true → a < nTp G := fun b q => (of_decide_eq_true q).1
  split at h
  · rename_i q; cases h; exact ⟨by decide, hb _ q⟩
  · split at h
    · rename_i q; cases h; exact ⟨by decide, hb _ q⟩
    · split at h
      · rename_i q; cases h; exact ⟨by decide, hb _ q⟩
      · split at h
        · rename_i q; cases h; exact ⟨by decide, hb _ q⟩
        · cases h
theorem tellK_at (G : GS) (t f of : Nat) : ∀ k j, k ≤ j → tellK G t f of k 25 (4 * t + j) = G 25 (4 * t + j)
  | 0, j, _ => rfl
  | k + 1, j, h => by
    unfold tellK
    rw [u2_ne (by omega)]
    exact tellK_at G t f of k j (by omega)
theorem tellK_row (G : GS) (t f of : Nat) : ∀ k r, r ≠ 25 → tellK G t f of k r = G r
  | 0, r, _ => rfl
  | k + 1, r, h => by
    unfold tellK
    rw [u2_row h]
    exact tellK_row G t f of k r h
theorem ini10_row (G : GS) (t : Nat) : ∀ k r, r ≠ 24 → ini10 G t k r = G r
  | 0, r, _ => rfl
  | k + 1, r, h => by
    unfold ini10
    rw [u2_row h]
    exact ini10_row G t k r h
theorem ini4_row (G : GS) (t : Nat) : ∀ k r, r ≠ 25 → ini4 G t k r = G r
  | 0, r, _ => rfl
  | k + 1, r, h => by
    unfold ini4
    rw [u2_row h]
    exact ini4_row G t k r h
theorem rowTells_row (G : GS) (a e r : Nat) (h1 : r ≠ 23) (h2 : r ≠ 24) (h3 : r ≠ 25) : rowTells G a e r = G r := by
  unfold rowTells
  split
  · rw [u2_row h1]
  · split
    · rw [u2_row h2]
    · rw [tellK_row _ _ _ _ _ _ h3]
section REF4
variable {E : VE} {σ : Sg} {G : GS} {post : Option Value → Sg → Prop}
set_option maxRecDepth 100000 in
theorem c_of (hE : eF E = true) (c w : Int32) (hI : Inv G) (hp : post (some (.int (s_of G c w).1)) (wG σ (s_of G c w).2)) : MX11_of E 3 0 0 [.ref (eQ E 48), .int c, .int w] (wG σ G) post := by
  refine MA.of RX11 "of" [some (.ref (eQ E 48)), some (.int c), some (.int w)] rfl rfl rfl (catAll rfl) (Nat.le_of_ble_eq_true rfl) rfl (fun X => ?_)
  have h50 := hI.caN.2
  have L60 : ∀ i, i < nCa G → post (some (.int (G 14 i))) (wG σ G) → ∀ l, V E X RX11 "of" cX11_of 3 (some .int) 3 0 0 (QM E X post 0 0) (wG σ G) 0 0 60 [some (.ref (eQ E 48)), some (.int (nI i)), l] [] := by
    intro i hi hp l
    refine V.aload_n (i := 0) dX11_of_60 rfl rfl ?_
    refine V.mgeta hE dX11_of_61 fl_X11_37 rfl ?_
    refine V.iload_n (i := 1) dX11_of_64 rfl rfl ?_
    refine V.miald hE dX11_of_65 rfl rfl rfl (show _ < 50 from (by omega)) ?_
    refine V.iret dX11_of_66 (Nat.le_of_ble_eq_true rfl) (Nat.le_of_ble_eq_true rfl) ?_
    exact hp
  have L67 : ∀ i, i < nCa G → post (some (.int (G 15 i))) (wG σ G) → ∀ l, V E X RX11 "of" cX11_of 3 (some .int) 3 0 0 (QM E X post 0 0) (wG σ G) 0 0 67 [some (.ref (eQ E 48)), some (.int (nI i)), l] [] := by
    intro i hi hp l
    refine V.aload_n (i := 0) dX11_of_67 rfl rfl ?_
    refine V.mgeta hE dX11_of_68 fl_X11_40 rfl ?_
    refine V.iload_n (i := 1) dX11_of_71 rfl rfl ?_
    refine V.miald hE dX11_of_72 rfl rfl rfl (show _ < 50 from (by omega)) ?_
    refine V.iret dX11_of_73 (Nat.le_of_ble_eq_true rfl) (Nat.le_of_ble_eq_true rfl) ?_
    exact hp
  have L74 : ∀ i, i < nCa G → post (some (.int (G 16 i))) (wG σ G) → ∀ l, V E X RX11 "of" cX11_of 3 (some .int) 3 0 0 (QM E X post 0 0) (wG σ G) 0 0 74 [some (.ref (eQ E 48)), some (.int (nI i)), l] [] := by
    intro i hi hp l
    refine V.aload_n (i := 0) dX11_of_74 rfl rfl ?_
    refine V.mgeta hE dX11_of_75 fl_X11_43 rfl ?_
    refine V.iload_n (i := 1) dX11_of_78 rfl rfl ?_
    refine V.miald hE dX11_of_79 rfl rfl rfl (show _ < 50 from (by omega)) ?_
    refine V.iret dX11_of_80 (Nat.le_of_ble_eq_true rfl) (Nat.le_of_ble_eq_true rfl) ?_
    exact hp
  have L81 : ∀ i, i < nCa G → post (some (.int (G 17 i))) (wG σ G) → ∀ l, V E X RX11 "of" cX11_of 3 (some .int) 3 0 0 (QM E X post 0 0) (wG σ G) 0 0 81 [some (.ref (eQ E 48)), some (.int (nI i)), l] [] := by
    intro i hi hp l
    refine V.aload_n (i := 0) dX11_of_81 rfl rfl ?_
    refine V.mgeta hE dX11_of_82 fl_X11_46 rfl ?_
    refine V.iload_n (i := 1) dX11_of_85 rfl rfl ?_
    refine V.miald hE dX11_of_86 rfl rfl rfl (show _ < 50 from (by omega)) ?_
    refine V.iret dX11_of_87 (Nat.le_of_ble_eq_true rfl) (Nat.le_of_ble_eq_true rfl) ?_
    exact hp
  have L88 : ∀ i, i < nCa G → post (some (.int (b2 (¬ G 18 i = 0)))) (wG σ G) → ∀ l, V E X RX11 "of" cX11_of 3 (some .int) 3 0 0 (QM E X post 0 0) (wG σ G) 0 0 88 [some (.ref (eQ E 48)), some (.int (nI i)), l] [] := by
    intro i hi hp l
    refine V.aload_n (i := 0) dX11_of_88 rfl rfl ?_
    refine V.mgeta hE dX11_of_89 fl_X11_49 rfl ?_
    refine V.iload_n (i := 1) dX11_of_92 rfl rfl ?_
    refine V.mzald hE dX11_of_93 rfl rfl rfl (show _ < 50 from (by omega)) ?_
    refine V.if_eq (tgt := 101) dX11_of_94 rfl (fun c94 => ?_) (fun c94 => ?_)
    · refine V.iconst dX11_of_101 ic_0 ?_
      refine V.iret dX11_of_102 (Nat.le_of_ble_eq_true rfl) (Nat.le_of_ble_eq_true rfl) ?_
      first | exact b2_ret0 (fun z => z c94) hp | exact b2_ret1 c94 hp
    · refine V.iconst dX11_of_97 ic_1 ?_
      refine V.goto (tgt := 102) dX11_of_98 rfl ?_
      refine V.iret dX11_of_102 (Nat.le_of_ble_eq_true rfl) (Nat.le_of_ble_eq_true rfl) ?_
      first | exact b2_ret0 (fun z => z c94) hp | exact b2_ret1 c94 hp
  have L103 : ∀ i, i < nCa G → post (some (.int (nI (looksAt G i)))) (wG σ G) → ∀ l, V E X RX11 "of" cX11_of 3 (some .int) 3 0 0 (QM E X post 0 0) (wG σ G) 0 0 103 [some (.ref (eQ E 48)), some (.int (nI i)), l] [] := by
    intro i hi hp l
    refine V.aload_n (i := 0) dX11_of_103 rfl rfl ?_
    refine V.iload_n (i := 1) dX11_of_104 rfl rfl ?_
    refine V.cq1D hE dX11_of_105 lk_X11_178 rfl (c_looksAt hE i hI ⟨rfl, rfl⟩) (by decide) (by decide) (Nat.le_of_ble_eq_true rfl) (Nat.le_of_ble_eq_true rfl) (Nat.le_of_ble_eq_true rfl) ?_
    refine V.iret dX11_of_108 (Nat.le_of_ble_eq_true rfl) (Nat.le_of_ble_eq_true rfl) ?_
    exact hp
  refine V.aload_n (i := 0) dX11_of_0 rfl rfl ?_
  refine V.iload_n (i := 1) dX11_of_1 rfl rfl ?_
  refine V.cq1D hE dX11_of_2 lk_X11_175 rfl (c_isCall hE _ hI ⟨rfl, rfl⟩) (by decide) (by decide) (Nat.le_of_ble_eq_true rfl) (Nat.le_of_ble_eq_true rfl) (Nat.le_of_ble_eq_true rfl) ?_
  refine V.ifb_eq (tgt := 17) dX11_of_5 rfl (fun c5 => ?_) (fun c5 => ?_)
  · refine V.aload_n (i := 0) dX11_of_17 rfl rfl ?_
    refine V.iconst dX11_of_18 ic_1 ?_
    refine V.cq1D hE dX11_of_19 lk_X11_137 rfl (c_finding hE _ (by decide) ⟨rfl, rfl⟩) (by decide) (by decide) (Nat.le_of_ble_eq_true rfl) (Nat.le_of_ble_eq_true rfl) (Nat.le_of_ble_eq_true rfl) ?_
    refine V.iret dX11_of_22 (Nat.le_of_ble_eq_true rfl) (Nat.le_of_ble_eq_true rfl) ?_
    exact pr_post (if_neg (by omega)) hp
  · refine V.iload_n (i := 2) dX11_of_8 rfl rfl ?_
    refine V.iconst dX11_of_9 ic_0 ?_
    refine V.iconst dX11_of_10 ic_5 ?_
    refine V.cs3D dX11_of_11 lk_X11_124 (c_isInN _ 0 5 (by decide) (by decide) ⟨rfl, rfl⟩) (by decide) (by decide) (Nat.le_of_ble_eq_true rfl) (Nat.le_of_ble_eq_true rfl) (Nat.le_of_ble_eq_true rfl) ?_
    refine V.ifb_ne (tgt := 23) dX11_of_14 rfl (fun c14 => ?_) (fun c14 => ?_)
    · obtain ⟨i, hi, rfl⟩ := idxOf c5
      obtain ⟨j, hj, rfl⟩ := idxOf (x := w) (n := 6) (by omega)
      have hz : s_of G (nI i) (nI j) = (if j = 0 then G 14 i else if j = 1 then G 15 i else if j = 2 then G 16 i else if j = 3 then G 17 i else if j = 4 then b2 (¬ G 18 i = 0) else nI (looksAt G i), G) := by
        unfold s_of
        rw [tn_nI (by omega), tn_nI (by omega), if_pos (by omega)]
      rcases (show j = 0 ∨ j = 1 ∨ j = 2 ∨ j = 3 ∨ j = 4 ∨ j = 5 by omega) with rfl | rfl | rfl | rfl | rfl | rfl
      · refine V.iload_n (i := 2) dX11_of_23 rfl rfl ?_
        refine V.tableIn (tgt := 60) (off := 36) dX11_of_24 (by decide) (by decide) rfl rfl ?_
        exact L60 i hi (pr_post hz hp) _
      · refine V.iload_n (i := 2) dX11_of_23 rfl rfl ?_
        refine V.tableIn (tgt := 67) (off := 43) dX11_of_24 (by decide) (by decide) rfl rfl ?_
        exact L67 i hi (pr_post hz hp) _
      · refine V.iload_n (i := 2) dX11_of_23 rfl rfl ?_
        refine V.tableIn (tgt := 74) (off := 50) dX11_of_24 (by decide) (by decide) rfl rfl ?_
        exact L74 i hi (pr_post hz hp) _
      · refine V.iload_n (i := 2) dX11_of_23 rfl rfl ?_
        refine V.tableIn (tgt := 81) (off := 57) dX11_of_24 (by decide) (by decide) rfl rfl ?_
        exact L81 i hi (pr_post hz hp) _
      · refine V.iload_n (i := 2) dX11_of_23 rfl rfl ?_
        refine V.tableIn (tgt := 88) (off := 64) dX11_of_24 (by decide) (by decide) rfl rfl ?_
        exact L88 i hi (pr_post hz hp) _
      · refine V.iload_n (i := 2) dX11_of_23 rfl rfl ?_
        refine V.tableOut (tgt := 103) dX11_of_24 (Or.inr (by decide)) rfl ?_
        exact L103 i hi (pr_post hz hp) _
    · refine V.aload_n (i := 0) dX11_of_17 rfl rfl ?_
      refine V.iconst dX11_of_18 ic_1 ?_
      refine V.cq1D hE dX11_of_19 lk_X11_137 rfl (c_finding hE _ (by decide) ⟨rfl, rfl⟩) (by decide) (by decide) (Nat.le_of_ble_eq_true rfl) (Nat.le_of_ble_eq_true rfl) (Nat.le_of_ble_eq_true rfl) ?_
      refine V.iret dX11_of_22 (Nat.le_of_ble_eq_true rfl) (Nat.le_of_ble_eq_true rfl) ?_
      exact pr_post (if_neg (by omega)) hp
set_option maxRecDepth 100000 in
theorem c_isByte (hE : eF E = true) (a b : Nat) (ha : a < 2 ^ 31) (ht : G 19 0 = nI (nTp G) ∧ nTp G ≤ 60) (hp : post (some (.int (b2 (isByt G a b = true)))) (wG σ G)) : MX11_isByte E 1 0 0 [.ref (eQ E 48), .int (nI a), .int (nI b)] (wG σ G) post := by
  refine MA.of RX11 "isByte" [some (.ref (eQ E 48)), some (.int (nI a)), some (.int (nI b))] rfl rfl rfl (catAll rfl) (Nat.le_of_ble_eq_true rfl) rfl (fun X => ?_)
  refine V.iload_n (i := 1) dX11_isByte_0 rfl rfl ?_
  refine V.aload_n (i := 0) dX11_isByte_1 rfl rfl ?_
  refine V.mgeti hE dX11_isByte_2 fl_X11_181 rfl ?_
  refine V.icmp_ge (tgt := 22) dX11_isByte_5 rfl (fun c5 => ?_) (fun c5 => ?_)
  · rw [ht.1, nI_leI (by omega) (by omega)] at c5
    refine V.iconst dX11_isByte_22 ic_0 ?_
    refine V.zret dX11_isByte_23 (by decide) (Nat.le_of_ble_eq_true rfl) (Nat.le_of_ble_eq_true rfl) ?_
    first | exact b2_ret1 (decide_eq_true ⟨by omega, c15⟩) hp | exact b2_ret0 (fun z => by have := of_decide_eq_true z; omega) hp | exact b2_ret0 (fun z => c15 (of_decide_eq_true z).2) hp
  · rw [ht.1, nI_leI (by omega) (by omega)] at c5
    refine V.aload_n (i := 0) dX11_isByte_8 rfl rfl ?_
    refine V.mgeta hE dX11_isByte_9 fl_X11_53 rfl ?_
    refine V.iload_n (i := 1) dX11_isByte_12 rfl rfl ?_
    refine V.miald hE dX11_isByte_13 rfl rfl rfl (show _ < 60 from (by omega)) ?_
    refine V.iload_n (i := 2) dX11_isByte_14 rfl rfl ?_
    refine V.icmp_ne (tgt := 22) dX11_isByte_15 rfl (fun c15 => ?_) (fun c15 => ?_)
    · refine V.iconst dX11_isByte_22 ic_0 ?_
      refine V.zret dX11_isByte_23 (by decide) (Nat.le_of_ble_eq_true rfl) (Nat.le_of_ble_eq_true rfl) ?_
      first | exact b2_ret1 (decide_eq_true ⟨by omega, c15⟩) hp | exact b2_ret0 (fun z => by have := of_decide_eq_true z; omega) hp | exact b2_ret0 (fun z => c15 (of_decide_eq_true z).2) hp
    · refine V.iconst dX11_isByte_18 ic_1 ?_
      refine V.goto (tgt := 23) dX11_isByte_19 rfl ?_
      refine V.zret dX11_isByte_23 (by decide) (Nat.le_of_ble_eq_true rfl) (Nat.le_of_ble_eq_true rfl) ?_
      first | exact b2_ret1 (decide_eq_true ⟨by omega, c15⟩) hp | exact b2_ret0 (fun z => by have := of_decide_eq_true z; omega) hp | exact b2_ret0 (fun z => c15 (of_decide_eq_true z).2) hp
set_option maxRecDepth 100000 in
theorem c_isDigit (hE : eF E = true) (a : Nat) (ha : a < 2 ^ 31) (ht : G 19 0 = nI (nTp G) ∧ nTp G ≤ 60) (hp : post (some (.int (b2 (isDig G a = true)))) (wG σ G)) : MX11_isDigit E 2 0 0 [.ref (eQ E 48), .int (nI a)] (wG σ G) post := by
  refine MA.of RX11 "isDigit" [some (.ref (eQ E 48)), some (.int (nI a))] rfl rfl rfl (catAll rfl) (Nat.le_of_ble_eq_true rfl) rfl (fun X => ?_)
  refine V.iload_n (i := 1) dX11_isDigit_0 rfl rfl ?_
  refine V.aload_n (i := 0) dX11_isDigit_1 rfl rfl ?_
  refine V.mgeti hE dX11_isDigit_2 fl_X11_181 rfl ?_
  refine V.icmp_ge (tgt := 28) dX11_isDigit_5 rfl (fun c5 => ?_) (fun c5 => ?_)
  · rw [ht.1, nI_leI (by omega) (by omega)] at c5
    refine V.iconst dX11_isDigit_28 ic_0 ?_
    refine V.zret dX11_isDigit_29 (by decide) (Nat.le_of_ble_eq_true rfl) (Nat.le_of_ble_eq_true rfl) ?_
    first | exact b2_ret1 (decide_eq_true ⟨by omega, c21⟩) hp | exact b2_ret0 (fun z => by have := of_decide_eq_true z; omega) hp
  · rw [ht.1, nI_leI (by omega) (by omega)] at c5
    refine V.aload_n (i := 0) dX11_isDigit_8 rfl rfl ?_
    refine V.mgeta hE dX11_isDigit_9 fl_X11_53 rfl ?_
    refine V.iload_n (i := 1) dX11_isDigit_12 rfl rfl ?_
    refine V.miald hE dX11_isDigit_13 rfl rfl rfl (show _ < 60 from (by omega)) ?_
    refine V.bipush dX11_isDigit_14 bc_48 ?_
    refine V.bipush dX11_isDigit_16 bc_57 ?_
    refine V.cs3D dX11_isDigit_18 lk_X11_124 (c_isInN _ 48 57 (by decide) (by decide) ⟨rfl, rfl⟩) (by decide) (by decide) (Nat.le_of_ble_eq_true rfl) (Nat.le_of_ble_eq_true rfl) (Nat.le_of_ble_eq_true rfl) ?_
    refine V.ifb_eq (tgt := 28) dX11_isDigit_21 rfl (fun c21 => ?_) (fun c21 => ?_)
    · refine V.iconst dX11_isDigit_28 ic_0 ?_
      refine V.zret dX11_isDigit_29 (by decide) (Nat.le_of_ble_eq_true rfl) (Nat.le_of_ble_eq_true rfl) ?_
      first | exact b2_ret1 (decide_eq_true ⟨by omega, c21⟩) hp | exact b2_ret0 (fun z => by have := of_decide_eq_true z; omega) hp
    · refine V.iconst dX11_isDigit_24 ic_1 ?_
      refine V.goto (tgt := 29) dX11_isDigit_25 rfl ?_
      refine V.zret dX11_isDigit_29 (by decide) (Nat.le_of_ble_eq_true rfl) (Nat.le_of_ble_eq_true rfl) ?_
      first | exact b2_ret1 (decide_eq_true ⟨by omega, c21⟩) hp | exact b2_ret0 (fun z => by have := of_decide_eq_true z; omega) hp
set_option maxRecDepth 100000 in
theorem c_kindAt (hE : eF E = true) (a : Nat) (ha : a < 2 ^ 31) (ht : G 19 0 = nI (nTp G) ∧ nTp G ≤ 60) (hp : post (some (.int (optI (kAt G a)))) (wG σ G)) : MX11_kindAt E 2 0 0 [.ref (eQ E 48), .int (nI a)] (wG σ G) post := by
  refine MA.of RX11 "kindAt" [some (.ref (eQ E 48)), some (.int (nI a))] rfl rfl rfl (catAll rfl) (Nat.le_of_ble_eq_true rfl) rfl (fun X => ?_)
  refine V.aload_n (i := 0) dX11_kindAt_0 rfl rfl ?_
  refine V.iload_n (i := 1) dX11_kindAt_1 rfl rfl ?_
  refine V.bipush dX11_kindAt_2 bc_115 ?_
  refine V.cq2D hE dX11_kindAt_4 lk_X11_184 rfl (c_isByte hE a _ ha ht ⟨rfl, rfl⟩) (by decide) (by decide) (Nat.le_of_ble_eq_true rfl) (Nat.le_of_ble_eq_true rfl) (Nat.le_of_ble_eq_true rfl) ?_
  refine V.ifb_eq (tgt := 14) dX11_kindAt_7 rfl (fun c7 => ?_) (fun c7 => ?_)
  · refine V.aload_n (i := 0) dX11_kindAt_14 rfl rfl ?_
    refine V.iload_n (i := 1) dX11_kindAt_15 rfl rfl ?_
    refine V.bipush dX11_kindAt_16 bc_116 ?_
    refine V.cq2D hE dX11_kindAt_18 lk_X11_184 rfl (c_isByte hE a _ ha ht ⟨rfl, rfl⟩) (by decide) (by decide) (Nat.le_of_ble_eq_true rfl) (Nat.le_of_ble_eq_true rfl) (Nat.le_of_ble_eq_true rfl) ?_
    refine V.ifb_eq (tgt := 28) dX11_kindAt_21 rfl (fun c21 => ?_) (fun c21 => ?_)
    · refine V.aload_n (i := 0) dX11_kindAt_28 rfl rfl ?_
      refine V.iload_n (i := 1) dX11_kindAt_29 rfl rfl ?_
      refine V.bipush dX11_kindAt_30 bc_103 ?_
      refine V.cq2D hE dX11_kindAt_32 lk_X11_184 rfl (c_isByte hE a _ ha ht ⟨rfl, rfl⟩) (by decide) (by decide) (Nat.le_of_ble_eq_true rfl) (Nat.le_of_ble_eq_true rfl) (Nat.le_of_ble_eq_true rfl) ?_
      refine V.ifb_eq (tgt := 42) dX11_kindAt_35 rfl (fun c35 => ?_) (fun c35 => ?_)
      · refine V.aload_n (i := 0) dX11_kindAt_42 rfl rfl ?_
        refine V.iload_n (i := 1) dX11_kindAt_43 rfl rfl ?_
        refine V.bipush dX11_kindAt_44 bc_102 ?_
        refine V.cq2D hE dX11_kindAt_46 lk_X11_184 rfl (c_isByte hE a _ ha ht ⟨rfl, rfl⟩) (by decide) (by decide) (Nat.le_of_ble_eq_true rfl) (Nat.le_of_ble_eq_true rfl) (Nat.le_of_ble_eq_true rfl) ?_
        refine V.ifb_eq (tgt := 56) dX11_kindAt_49 rfl (fun c49 => ?_) (fun c49 => ?_)
        · refine V.iconst dX11_kindAt_56 ic_m1 ?_
          refine V.iret dX11_kindAt_57 (Nat.le_of_ble_eq_true rfl) (Nat.le_of_ble_eq_true rfl) ?_
          refine i_post ?_ hp
          unfold kAt
          simp_all [optI]
        · refine V.iconst dX11_kindAt_52 ic_3 ?_
          refine V.goto (tgt := 57) dX11_kindAt_53 rfl ?_
          refine V.iret dX11_kindAt_57 (Nat.le_of_ble_eq_true rfl) (Nat.le_of_ble_eq_true rfl) ?_
          refine i_post ?_ hp
          unfold kAt
          simp_all [optI]
      · refine V.iconst dX11_kindAt_38 ic_2 ?_
        refine V.goto (tgt := 57) dX11_kindAt_39 rfl ?_
        refine V.iret dX11_kindAt_57 (Nat.le_of_ble_eq_true rfl) (Nat.le_of_ble_eq_true rfl) ?_
        refine i_post ?_ hp
        unfold kAt
        simp_all [optI]
    · refine V.iconst dX11_kindAt_24 ic_1 ?_
      refine V.goto (tgt := 57) dX11_kindAt_25 rfl ?_
      refine V.iret dX11_kindAt_57 (Nat.le_of_ble_eq_true rfl) (Nat.le_of_ble_eq_true rfl) ?_
      refine i_post ?_ hp
      unfold kAt
      simp_all [optI]
  · refine V.iconst dX11_kindAt_10 ic_0 ?_
    refine V.goto (tgt := 57) dX11_kindAt_11 rfl ?_
    refine V.iret dX11_kindAt_57 (Nat.le_of_ble_eq_true rfl) (Nat.le_of_ble_eq_true rfl) ?_
    refine i_post ?_ hp
    unfold kAt
    simp_all [optI]
set_option maxRecDepth 100000 in
theorem c_rowEnd (hE : eF E = true) (a : Nat) (ha : a < 1000) (ht : G 19 0 = nI (nTp G) ∧ nTp G ≤ 60) (hp : post (some (.int (nI (rowEnd G a)))) (wG σ G)) : MX11_rowEnd E 3 0 0 [.ref (eQ E 48), .int (nI a)] (wG σ G) post := by
  refine MA.of RX11 "rowEnd" [some (.ref (eQ E 48)), some (.int (nI a))] rfl rfl rfl (catAll rfl) (Nat.le_of_ble_eq_true rfl) rfl (fun X => ?_)
  refine V.aload_n (i := 0) dX11_rowEnd_0 rfl rfl ?_
  refine V.iload_n (i := 1) dX11_rowEnd_1 rfl rfl ?_
  refine V.bipush dX11_rowEnd_2 bc_108 ?_
  refine V.cq2D hE dX11_rowEnd_4 lk_X11_184 rfl (c_isByte hE a _ (by omega) ht ⟨rfl, rfl⟩) (by decide) (by decide) (Nat.le_of_ble_eq_true rfl) (Nat.le_of_ble_eq_true rfl) (Nat.le_of_ble_eq_true rfl) ?_
  refine V.ifb_eq (tgt := 46) dX11_rowEnd_7 rfl (fun c7 => ?_) (fun c7 => ?_)
  · refine V.aload_n (i := 0) dX11_rowEnd_46 rfl rfl ?_
    refine V.iload_n (i := 1) dX11_rowEnd_47 rfl rfl ?_
    refine V.bipush dX11_rowEnd_48 bc_119 ?_
    refine V.cq2D hE dX11_rowEnd_50 lk_X11_184 rfl (c_isByte hE a _ (by omega) ht ⟨rfl, rfl⟩) (by decide) (by decide) (Nat.le_of_ble_eq_true rfl) (Nat.le_of_ble_eq_true rfl) (Nat.le_of_ble_eq_true rfl) ?_
    refine V.ifb_eq (tgt := 92) dX11_rowEnd_53 rfl (fun c53 => ?_) (fun c53 => ?_)
    · refine V.aload_n (i := 0) dX11_rowEnd_92 rfl rfl ?_
      refine V.iload_n (i := 1) dX11_rowEnd_93 rfl rfl ?_
      refine V.bipush dX11_rowEnd_94 bc_103 ?_
      refine V.cq2D hE dX11_rowEnd_96 lk_X11_184 rfl (c_isByte hE a _ (by omega) ht ⟨rfl, rfl⟩) (by decide) (by decide) (Nat.le_of_ble_eq_true rfl) (Nat.le_of_ble_eq_true rfl) (Nat.le_of_ble_eq_true rfl) ?_
      refine V.ifb_eq (tgt := 138) dX11_rowEnd_99 rfl (fun c99 => ?_) (fun c99 => ?_)
      · refine V.iload_n (i := 1) dX11_rowEnd_138 rfl rfl ?_
        refine V.iret dX11_rowEnd_139 (Nat.le_of_ble_eq_true rfl) (Nat.le_of_ble_eq_true rfl) ?_
        refine i_post ?_ hp
        unfold rowEnd
        simp_all [nI_add]
      · refine V.aload_n (i := 0) dX11_rowEnd_102 rfl rfl ?_
        refine V.iload_n (i := 1) dX11_rowEnd_103 rfl rfl ?_
        refine V.iconst dX11_rowEnd_104 ic_1 ?_
        refine V.iadd dX11_rowEnd_105 ?_
        refine V.as _ (nI_add a 1) ?_
        refine V.cq1D hE dX11_rowEnd_106 lk_X11_187 rfl (c_isDigit hE (a + 1) (by omega) ht ⟨rfl, rfl⟩) (by decide) (by decide) (Nat.le_of_ble_eq_true rfl) (Nat.le_of_ble_eq_true rfl) (Nat.le_of_ble_eq_true rfl) ?_
        refine V.ifb_ne (tgt := 118) dX11_rowEnd_109 rfl (fun c109 => ?_) (fun c109 => ?_)
        · refine V.aload_n (i := 0) dX11_rowEnd_118 rfl rfl ?_
          refine V.iload_n (i := 1) dX11_rowEnd_119 rfl rfl ?_
          refine V.iconst dX11_rowEnd_120 ic_2 ?_
          refine V.iadd dX11_rowEnd_121 ?_
          refine V.as _ (nI_add a 2) ?_
          refine V.cq1D hE dX11_rowEnd_122 lk_X11_190 rfl (c_kindAt hE (a + 2) (by omega) ht ⟨rfl, rfl⟩) (by decide) (by decide) (Nat.le_of_ble_eq_true rfl) (Nat.le_of_ble_eq_true rfl) (Nat.le_of_ble_eq_true rfl) ?_
          refine V.if_ge (tgt := 134) dX11_rowEnd_125 rfl (fun c125 => ?_) (fun c125 => ?_)
          · rw [optI_ge _ (fun c h => by have := (kAt_lt h).1; omega)] at c125
            refine V.iload_n (i := 1) dX11_rowEnd_134 rfl rfl ?_
            refine V.iconst dX11_rowEnd_135 ic_3 ?_
            refine V.iadd dX11_rowEnd_136 ?_
            refine V.iret dX11_rowEnd_137 (Nat.le_of_ble_eq_true rfl) (Nat.le_of_ble_eq_true rfl) ?_
            refine i_post ?_ hp
            unfold rowEnd
            simp_all [nI_add]
          · rw [optI_ge _ (fun c h => by have := (kAt_lt h).1; omega)] at c125
            refine V.iload_n (i := 1) dX11_rowEnd_128 rfl rfl ?_
            refine V.iconst dX11_rowEnd_129 ic_2 ?_
            refine V.iadd dX11_rowEnd_130 ?_
            refine V.goto (tgt := 137) dX11_rowEnd_131 rfl ?_
            refine V.iret dX11_rowEnd_137 (Nat.le_of_ble_eq_true rfl) (Nat.le_of_ble_eq_true rfl) ?_
            refine i_post ?_ hp
            unfold rowEnd
            simp_all [nI_add]
        · refine V.iload_n (i := 1) dX11_rowEnd_112 rfl rfl ?_
          refine V.iconst dX11_rowEnd_113 ic_1 ?_
          refine V.iadd dX11_rowEnd_114 ?_
          refine V.goto (tgt := 137) dX11_rowEnd_115 rfl ?_
          refine V.iret dX11_rowEnd_137 (Nat.le_of_ble_eq_true rfl) (Nat.le_of_ble_eq_true rfl) ?_
          refine i_post ?_ hp
          unfold rowEnd
          simp_all [nI_add]
    · refine V.aload_n (i := 0) dX11_rowEnd_56 rfl rfl ?_
      refine V.iload_n (i := 1) dX11_rowEnd_57 rfl rfl ?_
      refine V.iconst dX11_rowEnd_58 ic_1 ?_
      refine V.iadd dX11_rowEnd_59 ?_
      refine V.as _ (nI_add a 1) ?_
      refine V.cq1D hE dX11_rowEnd_60 lk_X11_187 rfl (c_isDigit hE (a + 1) (by omega) ht ⟨rfl, rfl⟩) (by decide) (by decide) (Nat.le_of_ble_eq_true rfl) (Nat.le_of_ble_eq_true rfl) (Nat.le_of_ble_eq_true rfl) ?_
      refine V.ifb_ne (tgt := 72) dX11_rowEnd_63 rfl (fun c63 => ?_) (fun c63 => ?_)
      · refine V.aload_n (i := 0) dX11_rowEnd_72 rfl rfl ?_
        refine V.iload_n (i := 1) dX11_rowEnd_73 rfl rfl ?_
        refine V.iconst dX11_rowEnd_74 ic_2 ?_
        refine V.iadd dX11_rowEnd_75 ?_
        refine V.as _ (nI_add a 2) ?_
        refine V.cq1D hE dX11_rowEnd_76 lk_X11_187 rfl (c_isDigit hE (a + 2) (by omega) ht ⟨rfl, rfl⟩) (by decide) (by decide) (Nat.le_of_ble_eq_true rfl) (Nat.le_of_ble_eq_true rfl) (Nat.le_of_ble_eq_true rfl) ?_
        refine V.ifb_ne (tgt := 88) dX11_rowEnd_79 rfl (fun c79 => ?_) (fun c79 => ?_)
        · refine V.iload_n (i := 1) dX11_rowEnd_88 rfl rfl ?_
          refine V.iconst dX11_rowEnd_89 ic_3 ?_
          refine V.iadd dX11_rowEnd_90 ?_
          refine V.iret dX11_rowEnd_91 (Nat.le_of_ble_eq_true rfl) (Nat.le_of_ble_eq_true rfl) ?_
          refine i_post ?_ hp
          unfold rowEnd
          simp_all [nI_add]
        · refine V.iload_n (i := 1) dX11_rowEnd_82 rfl rfl ?_
          refine V.iconst dX11_rowEnd_83 ic_2 ?_
          refine V.iadd dX11_rowEnd_84 ?_
          refine V.goto (tgt := 91) dX11_rowEnd_85 rfl ?_
          refine V.iret dX11_rowEnd_91 (Nat.le_of_ble_eq_true rfl) (Nat.le_of_ble_eq_true rfl) ?_
          refine i_post ?_ hp
          unfold rowEnd
          simp_all [nI_add]
      · refine V.iload_n (i := 1) dX11_rowEnd_66 rfl rfl ?_
        refine V.iconst dX11_rowEnd_67 ic_1 ?_
        refine V.iadd dX11_rowEnd_68 ?_
        refine V.goto (tgt := 91) dX11_rowEnd_69 rfl ?_
        refine V.iret dX11_rowEnd_91 (Nat.le_of_ble_eq_true rfl) (Nat.le_of_ble_eq_true rfl) ?_
        refine i_post ?_ hp
        unfold rowEnd
        simp_all [nI_add]
  · refine V.aload_n (i := 0) dX11_rowEnd_10 rfl rfl ?_
    refine V.iload_n (i := 1) dX11_rowEnd_11 rfl rfl ?_
    refine V.iconst dX11_rowEnd_12 ic_1 ?_
    refine V.iadd dX11_rowEnd_13 ?_
    refine V.as _ (nI_add a 1) ?_
    refine V.cq1D hE dX11_rowEnd_14 lk_X11_187 rfl (c_isDigit hE (a + 1) (by omega) ht ⟨rfl, rfl⟩) (by decide) (by decide) (Nat.le_of_ble_eq_true rfl) (Nat.le_of_ble_eq_true rfl) (Nat.le_of_ble_eq_true rfl) ?_
    refine V.ifb_ne (tgt := 26) dX11_rowEnd_17 rfl (fun c17 => ?_) (fun c17 => ?_)
    · refine V.aload_n (i := 0) dX11_rowEnd_26 rfl rfl ?_
      refine V.iload_n (i := 1) dX11_rowEnd_27 rfl rfl ?_
      refine V.iconst dX11_rowEnd_28 ic_2 ?_
      refine V.iadd dX11_rowEnd_29 ?_
      refine V.as _ (nI_add a 2) ?_
      refine V.cq1D hE dX11_rowEnd_30 lk_X11_187 rfl (c_isDigit hE (a + 2) (by omega) ht ⟨rfl, rfl⟩) (by decide) (by decide) (Nat.le_of_ble_eq_true rfl) (Nat.le_of_ble_eq_true rfl) (Nat.le_of_ble_eq_true rfl) ?_
      refine V.ifb_eq (tgt := 42) dX11_rowEnd_33 rfl (fun c33 => ?_) (fun c33 => ?_)
      · refine V.iload_n (i := 1) dX11_rowEnd_42 rfl rfl ?_
        refine V.iconst dX11_rowEnd_43 ic_2 ?_
        refine V.iadd dX11_rowEnd_44 ?_
        refine V.iret dX11_rowEnd_45 (Nat.le_of_ble_eq_true rfl) (Nat.le_of_ble_eq_true rfl) ?_
        refine i_post ?_ hp
        unfold rowEnd
        simp_all [nI_add]
      · refine V.iload_n (i := 1) dX11_rowEnd_36 rfl rfl ?_
        refine V.iconst dX11_rowEnd_37 ic_3 ?_
        refine V.iadd dX11_rowEnd_38 ?_
        refine V.goto (tgt := 45) dX11_rowEnd_39 rfl ?_
        refine V.iret dX11_rowEnd_45 (Nat.le_of_ble_eq_true rfl) (Nat.le_of_ble_eq_true rfl) ?_
        refine i_post ?_ hp
        unfold rowEnd
        simp_all [nI_add]
    · refine V.iload_n (i := 1) dX11_rowEnd_20 rfl rfl ?_
      refine V.iconst dX11_rowEnd_21 ic_1 ?_
      refine V.iadd dX11_rowEnd_22 ?_
      refine V.goto (tgt := 45) dX11_rowEnd_23 rfl ?_
      refine V.iret dX11_rowEnd_45 (Nat.le_of_ble_eq_true rfl) (Nat.le_of_ble_eq_true rfl) ?_
      refine i_post ?_ hp
      unfold rowEnd
      simp_all [nI_add]
set_option maxRecDepth 100000 in
theorem c_rowLeast (hE : eF E = true) (a : Nat) (ha : a < 1000) (ht : G 19 0 = nI (nTp G) ∧ nTp G ≤ 60) (hp : post (some (.int (nI (rowLeast G a)))) (wG σ G)) : MX11_rowLeast E 2 0 0 [.ref (eQ E 48), .int (nI a)] (wG σ G) post := by
  refine MA.of RX11 "rowLeast" [some (.ref (eQ E 48)), some (.int (nI a))] rfl rfl rfl (catAll rfl) (Nat.le_of_ble_eq_true rfl) rfl (fun X => ?_)
  refine V.aload_n (i := 0) dX11_rowLeast_0 rfl rfl ?_
  refine V.iload_n (i := 1) dX11_rowLeast_1 rfl rfl ?_
  refine V.bipush dX11_rowLeast_2 bc_108 ?_
  refine V.cq2D hE dX11_rowLeast_4 lk_X11_184 rfl (c_isByte hE a _ (by omega) ht ⟨rfl, rfl⟩) (by decide) (by decide) (Nat.le_of_ble_eq_true rfl) (Nat.le_of_ble_eq_true rfl) (Nat.le_of_ble_eq_true rfl) ?_
  refine V.ifb_eq (tgt := 14) dX11_rowLeast_7 rfl (fun c7 => ?_) (fun c7 => ?_)
  · refine V.iconst dX11_rowLeast_14 ic_3 ?_
    refine V.iret dX11_rowLeast_15 (Nat.le_of_ble_eq_true rfl) (Nat.le_of_ble_eq_true rfl) ?_
    refine i_post ?_ hp
    unfold rowLeast
    simp_all
  · refine V.iconst dX11_rowLeast_10 ic_2 ?_
    refine V.goto (tgt := 15) dX11_rowLeast_11 rfl ?_
    refine V.iret dX11_rowLeast_15 (Nat.le_of_ble_eq_true rfl) (Nat.le_of_ble_eq_true rfl) ?_
    refine i_post ?_ hp
    unfold rowLeast
    simp_all
end REF4

