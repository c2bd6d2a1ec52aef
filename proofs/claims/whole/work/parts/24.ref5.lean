/-! ===== the model: a treaty's rows, treaty, says ===== -/
theorem nTp_row {G G' : GS} (h : G' 19 = G 19) : nTp G' = nTp G := by unfold nTp gN; rw [h]
theorem nTr_row {G G' : GS} (h : G' 21 = G 21) : nTr G' = nTr G := by unfold nTr gN; rw [h]
theorem frcK_lt (G : GS) (on : Int32) : ∀ n t, frcK G on n = some t → t < n
  | 0, t, h => by cases h
  | n + 1, t, h => by
    unfold frcK at h
    split at h
    · cases h; omega
    · have := frcK_lt G on n t h; omega
theorem dec1 (k : Nat) : nI k + Int32.ofInt (-1) = nI k - nI 1 := by rw [Int32.sub_eq_add_neg]; rfl
section REF5
variable {E : VE} {σ : Sg} {G : GS} {post : Option Value → Sg → Prop}
set_option maxRecDepth 100000 in
theorem c_rowTells (hE : eF E = true) (a e : Nat) (ht : G 19 0 = nI (nTp G) ∧ nTp G ≤ 60) (hr : G 21 0 = nI (nTr G) ∧ nTr G < 6) (hv : rowEnd G a = e) (hl : a + rowLeast G a ≤ e) (he : e < nTp G) (hp : post none (wG σ (rowTells G a e))) : MX11_rowTells E 3 0 0 [.ref (eQ E 48), .int (nI a), .int (nI e)] (wG σ G) post := by
  refine MA.of RX11 "rowTells" [some (.ref (eQ E 48)), some (.int (nI a)), some (.int (nI e)), none, none, none, none, none] rfl rfl rfl (catAll rfl) (Nat.le_of_ble_eq_true rfl) rfl (fun X => ?_)
  have hok := rowOK hv hl
  have hd1 : isDig G (a + 1) = true := by rcases hok with h | h | h <;> exact h.2.1
  obtain ⟨e1, e2, e3⟩ := dig_sub hd1
  have hae : a + 2 ≤ e := by rcases hok with ⟨-, -, h | h⟩ | h | h <;> omega
  have loop : G 20 a = nI 103 → ∀ of, kAt G (a + 2) = some of → ∀ m k, k + m = 4 → ∀ l7, V E X RX11 "rowTells" cX11_rowTells 8 none 3 0 0 (QM E X post 0 0) (wG σ (tellK G (nTr G) (dgt G (a + 1)) of k)) 0 0 116 [some (.ref (eQ E 48)), some (.int (nI a)), some (.int (nI e)), some (.int (G 21 0)), some (.int (nI (dgt G (a + 1)))), some (.int (nI of)), some (.int (nI k)), l7] [] := by
    intro hg of hof m
    have hof4 := (kAt_lt hof).1
    induction m with
    | zero =>
      intro k hk l7
      refine V.iload (i := 6) dX11_rowTells_116 rfl ?_
      refine V.iconst dX11_rowTells_118 ic_4 ?_
      refine V.icmp_geT (tgt := 186) dX11_rowTells_119 rfl (nI_le (by omega) (by omega)) ?_
      refine V.vret dX11_rowTells_186 (Nat.le_of_ble_eq_true rfl) (Nat.le_of_ble_eq_true rfl) ?_
      rw [rowTells, if_neg (by rw [hg]; decide), if_neg (by rw [hg]; decide), hof] at hp; rw [show k = 4 by omega]; exact hp
    | succ m ih =>
      intro k hk l7
      have J1 : (of = 0 ∨ of = k ∨ (of = 1 ∧ k = 2)) → V E X RX11 "rowTells" cX11_rowTells 8 none 3 0 0 (QM E X post 0 0) (wG σ (tellK G (nTr G) (dgt G (a + 1)) of k)) 0 0 153 [some (.ref (eQ E 48)), some (.int (nI a)), some (.int (nI e)), some (.int (G 21 0)), some (.int (nI (dgt G (a + 1)))), some (.int (nI of)), some (.int (nI k)), some (.int (nI 1))] [] := by
        intro hc
        refine V.aload_n (i := 0) dX11_rowTells_153 rfl rfl ?_
        refine V.mgeta hE dX11_rowTells_154 fl_X11_65 rfl ?_
        refine V.iconst dX11_rowTells_157 ic_4 ?_
        refine V.iload_n (i := 3) dX11_rowTells_158 rfl rfl ?_
        refine V.imul dX11_rowTells_159 ?_
        refine V.iload (i := 6) dX11_rowTells_160 rfl ?_
        refine V.iadd dX11_rowTells_162 ?_
        refine V.as (nI (4 * nTr G + k)) (by rw [hr.1, pk_mul, nI_add]) ?_
        refine V.dup2 dX11_rowTells_163 rfl rfl ?_
        refine V.miald hE dX11_rowTells_164 rfl rfl rfl (show _ < 24 from (by omega)) ?_
        refine V.as _ (tellK_at G (nTr G) (dgt G (a + 1)) of k k (Nat.le_refl k)) ?_
        refine V.iload (i := 7) dX11_rowTells_165 rfl ?_
        refine V.if_eqF (tgt := 177) dX11_rowTells_167 rfl (by decide) ?_
        refine V.iconst dX11_rowTells_170 ic_1 ?_
        refine V.iload (i := 4) dX11_rowTells_171 rfl ?_
        refine V.ishl dX11_rowTells_173 ?_
        refine V.as _ (sh1 (by omega)) ?_
        refine V.goto (tgt := 178) dX11_rowTells_174 rfl ?_
        refine V.ior dX11_rowTells_178 ?_
        refine V.miast hE dX11_rowTells_179 rfl rfl rfl (show _ < 24 from (by omega)) ?_
        refine V.iinc6 (by decide) dX11_rowTells_180 (inc1 _) ?_
        refine V.goto (tgt := 116) dX11_rowTells_183 rfl ?_
        refine V.sts ?_ (ih (k + 1) (by omega) _)
        rw [tellK, if_pos hc]
      have J0 : ¬ (of = 0 ∨ of = k ∨ (of = 1 ∧ k = 2)) → V E X RX11 "rowTells" cX11_rowTells 8 none 3 0 0 (QM E X post 0 0) (wG σ (tellK G (nTr G) (dgt G (a + 1)) of k)) 0 0 153 [some (.ref (eQ E 48)), some (.int (nI a)), some (.int (nI e)), some (.int (G 21 0)), some (.int (nI (dgt G (a + 1)))), some (.int (nI of)), some (.int (nI k)), some (.int (nI 0))] [] := by
        intro hc
        refine V.aload_n (i := 0) dX11_rowTells_153 rfl rfl ?_
        refine V.mgeta hE dX11_rowTells_154 fl_X11_65 rfl ?_
        refine V.iconst dX11_rowTells_157 ic_4 ?_
        refine V.iload_n (i := 3) dX11_rowTells_158 rfl rfl ?_
        refine V.imul dX11_rowTells_159 ?_
        refine V.iload (i := 6) dX11_rowTells_160 rfl ?_
        refine V.iadd dX11_rowTells_162 ?_
        refine V.as (nI (4 * nTr G + k)) (by rw [hr.1, pk_mul, nI_add]) ?_
        refine V.dup2 dX11_rowTells_163 rfl rfl ?_
        refine V.miald hE dX11_rowTells_164 rfl rfl rfl (show _ < 24 from (by omega)) ?_
        refine V.as _ (tellK_at G (nTr G) (dgt G (a + 1)) of k k (Nat.le_refl k)) ?_
        refine V.iload (i := 7) dX11_rowTells_165 rfl ?_
        refine V.if_eqT (tgt := 177) dX11_rowTells_167 rfl (by decide) ?_
        refine V.iconst dX11_rowTells_177 ic_0 ?_
        refine V.ior dX11_rowTells_178 ?_
        refine V.miast hE dX11_rowTells_179 rfl rfl rfl (show _ < 24 from (by omega)) ?_
        refine V.iinc6 (by decide) dX11_rowTells_180 (inc1 _) ?_
        refine V.goto (tgt := 116) dX11_rowTells_183 rfl ?_
        refine V.sts ?_ (ih (k + 1) (by omega) _)
        rw [tellK, if_neg hc]
      refine V.iload (i := 6) dX11_rowTells_116 rfl ?_
      refine V.iconst dX11_rowTells_118 ic_4 ?_
      refine V.icmp_geF (tgt := 186) dX11_rowTells_119 rfl (nI_ge (by omega) (by omega)) ?_
      refine V.iload (i := 5) dX11_rowTells_122 rfl ?_
      refine V.if_eq (tgt := 146) dX11_rowTells_124 rfl (fun c124 => ?_) (fun c124 => ?_)
      · rw [show (0 : Int32) = nI 0 from rfl, nI_eq (by omega) (by decide)] at c124
        refine V.iconst dX11_rowTells_146 ic_1 ?_
        refine V.goto (tgt := 151) dX11_rowTells_147 rfl ?_
        refine V.istore7 (by decide) dX11_rowTells_151 ?_
        first | exact J1 (by omega) | exact J0 (by omega)
      · rw [show (0 : Int32) = nI 0 from rfl, nI_eq (by omega) (by decide)] at c124
        refine V.iload (i := 5) dX11_rowTells_127 rfl ?_
        refine V.iload (i := 6) dX11_rowTells_129 rfl ?_
        refine V.icmp_eq (tgt := 146) dX11_rowTells_131 rfl (fun c131 => ?_) (fun c131 => ?_)
        · rw [nI_eq (by omega) (by omega)] at c131
          refine V.iconst dX11_rowTells_146 ic_1 ?_
          refine V.goto (tgt := 151) dX11_rowTells_147 rfl ?_
          refine V.istore7 (by decide) dX11_rowTells_151 ?_
          first | exact J1 (by omega) | exact J0 (by omega)
        · rw [nI_eq (by omega) (by omega)] at c131
          refine V.iload (i := 5) dX11_rowTells_134 rfl ?_
          refine V.iconst dX11_rowTells_136 ic_1 ?_
          refine V.icmp_ne (tgt := 150) dX11_rowTells_137 rfl (fun c137 => ?_) (fun c137 => ?_)
          · rw [nI_eq (by omega) (by decide)] at c137
            refine V.iconst dX11_rowTells_150 ic_0 ?_
            refine V.istore7 (by decide) dX11_rowTells_151 ?_
            first | exact J1 (by omega) | exact J0 (by omega)
          · rw [nI_eq (by omega) (by decide)] at c137
            refine V.iload (i := 6) dX11_rowTells_140 rfl ?_
            refine V.iconst dX11_rowTells_142 ic_2 ?_
            refine V.icmp_ne (tgt := 150) dX11_rowTells_143 rfl (fun c143 => ?_) (fun c143 => ?_)
            · rw [nI_eq (by omega) (by decide)] at c143
              refine V.iconst dX11_rowTells_150 ic_0 ?_
              refine V.istore7 (by decide) dX11_rowTells_151 ?_
              first | exact J1 (by omega) | exact J0 (by omega)
            · rw [nI_eq (by omega) (by decide)] at c143
              refine V.iconst dX11_rowTells_146 ic_1 ?_
              refine V.goto (tgt := 151) dX11_rowTells_147 rfl ?_
              refine V.istore7 (by decide) dX11_rowTells_151 ?_
              first | exact J1 (by omega) | exact J0 (by omega)
  refine V.aload_n (i := 0) dX11_rowTells_0 rfl rfl ?_
  refine V.mgeti hE dX11_rowTells_1 fl_X11_193 rfl ?_
  refine V.istore_n3 (by decide) dX11_rowTells_4 ?_
  refine V.aload_n (i := 0) dX11_rowTells_5 rfl rfl ?_
  refine V.mgeta hE dX11_rowTells_6 fl_X11_53 rfl ?_
  refine V.iload_n (i := 1) dX11_rowTells_9 rfl rfl ?_
  refine V.iconst dX11_rowTells_10 ic_1 ?_
  refine V.iadd dX11_rowTells_11 ?_
  refine V.as _ (nI_add a 1) ?_
  refine V.miald hE dX11_rowTells_12 rfl rfl rfl (show _ < 60 from (by omega)) ?_
  refine V.bipush dX11_rowTells_13 bc_48 ?_
  refine V.isub dX11_rowTells_15 ?_
  refine V.as _ e1 ?_
  refine V.istore4 (by decide) dX11_rowTells_16 ?_
  refine V.aload_n (i := 0) dX11_rowTells_18 rfl rfl ?_
  refine V.mgeta hE dX11_rowTells_19 fl_X11_53 rfl ?_
  refine V.iload_n (i := 1) dX11_rowTells_22 rfl rfl ?_
  refine V.miald hE dX11_rowTells_23 rfl rfl rfl (show _ < 60 from (by omega)) ?_
  refine V.bipush dX11_rowTells_24 bc_108 ?_
  refine V.icmp_ne (tgt := 67) dX11_rowTells_26 rfl (fun c26 => ?_) (fun c26 => ?_)
  · refine V.aload_n (i := 0) dX11_rowTells_67 rfl rfl ?_
    refine V.mgeta hE dX11_rowTells_68 fl_X11_53 rfl ?_
    refine V.iload_n (i := 1) dX11_rowTells_71 rfl rfl ?_
    refine V.miald hE dX11_rowTells_72 rfl rfl rfl (show _ < 60 from (by omega)) ?_
    refine V.bipush dX11_rowTells_73 bc_119 ?_
    refine V.icmp_ne (tgt := 104) dX11_rowTells_75 rfl (fun c75 => ?_) (fun c75 => ?_)
    · have hq : G 20 a = nI 103 ∧ kAt G (a + 2) ≠ none := by rcases hok with h | h | h <;> first | exact absurd h.1 c26 | exact absurd h.1 c75 | exact ⟨h.1, h.2.2.1⟩
      obtain ⟨of, hof⟩ := Option.ne_none_iff_exists'.mp hq.2
      refine V.aload_n (i := 0) dX11_rowTells_104 rfl rfl ?_
      refine V.iload_n (i := 1) dX11_rowTells_105 rfl rfl ?_
      refine V.iconst dX11_rowTells_106 ic_2 ?_
      refine V.iadd dX11_rowTells_107 ?_
      refine V.as _ (nI_add a 2) ?_
      refine V.cq1D hE dX11_rowTells_108 lk_X11_190 rfl (c_kindAt hE (a + 2) (by omega) ht ⟨rfl, rfl⟩) (by decide) (by decide) (Nat.le_of_ble_eq_true rfl) (Nat.le_of_ble_eq_true rfl) (Nat.le_of_ble_eq_true rfl) ?_
      refine V.as (nI of) (by rw [hof]; rfl) ?_
      refine V.istore5 (by decide) dX11_rowTells_111 ?_
      refine V.iconst dX11_rowTells_113 ic_0 ?_
      refine V.istore6 (by decide) dX11_rowTells_114 ?_
      exact loop hq.1 of hof 4 0 rfl _
    · have hq : isDig G (a + 2) = true ∧ e = a + 3 := by rcases hok with h | h | h <;> first | exact h.2.2 | (exfalso; have := h.1.symm.trans c75; revert this; decide)
      refine V.aload_n (i := 0) dX11_rowTells_78 rfl rfl ?_
      refine V.mgeta hE dX11_rowTells_79 fl_X11_62 rfl ?_
      refine V.bipush dX11_rowTells_82 bc_10 ?_
      refine V.iload_n (i := 3) dX11_rowTells_84 rfl rfl ?_
      refine V.imul dX11_rowTells_85 ?_
      refine V.iload (i := 4) dX11_rowTells_86 rfl ?_
      refine V.iadd dX11_rowTells_88 ?_
      refine V.as (nI (10 * nTr G + dgt G (a + 1))) (by rw [hr.1, pk_mul, nI_add]) ?_
      refine V.aload_n (i := 0) dX11_rowTells_89 rfl rfl ?_
      refine V.mgeta hE dX11_rowTells_90 fl_X11_53 rfl ?_
      refine V.iload_n (i := 1) dX11_rowTells_93 rfl rfl ?_
      refine V.iconst dX11_rowTells_94 ic_2 ?_
      refine V.iadd dX11_rowTells_95 ?_
      refine V.as _ (nI_add a 2) ?_
      refine V.miald hE dX11_rowTells_96 rfl rfl rfl (show _ < 60 from (by omega)) ?_
      refine V.bipush dX11_rowTells_97 bc_48 ?_
      refine V.isub dX11_rowTells_99 ?_
      refine V.as _ (dig_sub hq.1).1 ?_
      refine V.miast hE dX11_rowTells_100 rfl rfl rfl (show _ < 60 from (by omega)) ?_
      refine V.goto (tgt := 186) dX11_rowTells_101 rfl ?_
      refine V.vret dX11_rowTells_186 (Nat.le_of_ble_eq_true rfl) (Nat.le_of_ble_eq_true rfl) ?_
      rw [rowTells] at hp; simp_all
  · have hq : isDig G (a + 1) = true ∧ ((e = a + 3 ∧ isDig G (a + 2) = true) ∨ e = a + 2) := by rcases hok with h | h | h <;> first | exact h.2 | (exfalso; have := h.1.symm.trans c26; revert this; decide)
    refine V.aload_n (i := 0) dX11_rowTells_29 rfl rfl ?_
    refine V.mgeta hE dX11_rowTells_30 fl_X11_59 rfl ?_
    refine V.iload_n (i := 3) dX11_rowTells_33 rfl rfl ?_
    refine V.iload_n (i := 2) dX11_rowTells_34 rfl rfl ?_
    refine V.iload_n (i := 1) dX11_rowTells_35 rfl rfl ?_
    refine V.iconst dX11_rowTells_36 ic_3 ?_
    refine V.iadd dX11_rowTells_37 ?_
    refine V.as _ (nI_add a 3) ?_
    refine V.icmp_ne (tgt := 61) dX11_rowTells_38 rfl (fun c38 => ?_) (fun c38 => ?_)
    · rw [nI_eq (by omega) (by omega)] at c38
      refine V.iload (i := 4) dX11_rowTells_61 rfl ?_
      refine V.miast hE dX11_rowTells_63 rfl rfl hr.1 (show _ < 6 from (by omega)) ?_
      refine V.goto (tgt := 186) dX11_rowTells_64 rfl ?_
      refine V.vret dX11_rowTells_186 (Nat.le_of_ble_eq_true rfl) (Nat.le_of_ble_eq_true rfl) ?_
      rw [rowTells] at hp; simp_all
    · rw [nI_eq (by omega) (by omega)] at c38
      have hd2 : isDig G (a + 2) = true := by rcases hq.2 with h | h <;> first | exact h.2 | omega
      refine V.bipush dX11_rowTells_41 bc_10 ?_
      refine V.iload (i := 4) dX11_rowTells_43 rfl ?_
      refine V.imul dX11_rowTells_45 ?_
      refine V.aload_n (i := 0) dX11_rowTells_46 rfl rfl ?_
      refine V.mgeta hE dX11_rowTells_47 fl_X11_53 rfl ?_
      refine V.iload_n (i := 1) dX11_rowTells_50 rfl rfl ?_
      refine V.iconst dX11_rowTells_51 ic_2 ?_
      refine V.iadd dX11_rowTells_52 ?_
      refine V.as _ (nI_add a 2) ?_
      refine V.miald hE dX11_rowTells_53 rfl rfl rfl (show _ < 60 from (by omega)) ?_
      refine V.iadd dX11_rowTells_54 ?_
      refine V.bipush dX11_rowTells_55 bc_48 ?_
      refine V.isub dX11_rowTells_57 ?_
      refine V.as (nI (10 * dgt G (a + 1) + dgt G (a + 2))) (by rw [(dig_sub hd2).2.2, pk_mul, nI_add, pk_sub (by omega)]; congr 1) ?_
      refine V.goto (tgt := 63) dX11_rowTells_58 rfl ?_
      refine V.miast hE dX11_rowTells_63 rfl rfl hr.1 (show _ < 6 from (by omega)) ?_
      refine V.goto (tgt := 186) dX11_rowTells_64 rfl ?_
      refine V.vret dX11_rowTells_186 (Nat.le_of_ble_eq_true rfl) (Nat.le_of_ble_eq_true rfl) ?_
      rw [rowTells] at hp; simp_all
set_option maxRecDepth 100000 in
theorem c_readAll (hE : eF E = true) (ht : G 19 0 = nI (nTp G) ∧ nTp G ≤ 60) (hr : G 21 0 = nI (nTr G) ∧ nTr G < 6) (hp : post (some (.int (optI (readAll G).1))) (wG σ (readAll G).2)) : MX11_readAll E 4 0 0 [.ref (eQ E 48)] (wG σ G) post := by
  refine MA.of RX11 "readAll" [some (.ref (eQ E 48)), none, none, none] rfl rfl rfl (catAll rfl) (Nat.le_of_ble_eq_true rfl) rfl (fun X => ?_)
  have main : ∀ m a G', G' 19 = G 19 → G' 20 = G 20 → G' 21 = G 21 → a ≤ nTp G → nTp G < a + m → rd m G' a = readAll G → ∀ l3, V E X RX11 "readAll" cX11_readAll 4 (some .int) 4 0 0 (QM E X post 0 0) (wG σ G') 0 0 65 [some (.ref (eQ E 48)), some (.int (G 21 0)), some (.int (nI a)), l3] [] := by
    intro m
    induction m with
    | zero => intro a G' h1 h2 h3 h4 h5; omega
    | succ m ih =>
      intro a G' h1 h2 h3 h4 h5 hv l3
      have hT := nTp_row h1
      have hR := nTr_row h3
      have ht' : G' 19 0 = nI (nTp G') ∧ nTp G' ≤ 60 := by rw [hT, h1]; exact ht
      have hr' : G' 21 0 = nI (nTr G') ∧ nTr G' < 6 := by rw [hR, h3]; exact hr
      rw [rd] at hv
      have hRE : rowEnd G' a ≤ a + 3 := by
        unfold rowEnd
        repeat' split
        all_goals omega
      have hRL : rowLeast G' a ≤ 3 := by
        unfold rowLeast
        split <;> omega
      refine V.iload_n (i := 2) dX11_readAll_65 rfl rfl ?_
      refine V.aload_n (i := 0) dX11_readAll_66 rfl rfl ?_
      refine V.mgeti hE dX11_readAll_67 fl_X11_181 rfl ?_
      refine V.icmp_ge (tgt := 115) dX11_readAll_70 rfl (fun c70 => ?_) (fun c70 => ?_)
      · rw [ht'.1, nI_leI (by omega) (by omega), hT] at c70
        refine V.iconst dX11_readAll_115 ic_m1 ?_
        refine V.iret dX11_readAll_116 (Nat.le_of_ble_eq_true rfl) (Nat.le_of_ble_eq_true rfl) ?_
        rw [if_pos (by omega)] at hv; rw [← hv] at hp; exact hp
      · rw [ht'.1, nI_leI (by omega) (by omega), hT] at c70
        refine V.aload_n (i := 0) dX11_readAll_73 rfl rfl ?_
        refine V.iload_n (i := 2) dX11_readAll_74 rfl rfl ?_
        refine V.cq1D hE dX11_readAll_75 lk_X11_196 rfl (c_rowEnd hE a (by omega) ht' ⟨rfl, rfl⟩) (by decide) (by decide) (Nat.le_of_ble_eq_true rfl) (Nat.le_of_ble_eq_true rfl) (Nat.le_of_ble_eq_true rfl) ?_
        refine V.istore_n3 (by decide) dX11_readAll_78 ?_
        refine V.iload_n (i := 3) dX11_readAll_79 rfl rfl ?_
        refine V.iload_n (i := 2) dX11_readAll_80 rfl rfl ?_
        refine V.aload_n (i := 0) dX11_readAll_81 rfl rfl ?_
        refine V.iload_n (i := 2) dX11_readAll_82 rfl rfl ?_
        refine V.cq1D hE dX11_readAll_83 lk_X11_199 rfl (c_rowLeast hE a (by omega) ht' ⟨rfl, rfl⟩) (by decide) (by decide) (Nat.le_of_ble_eq_true rfl) (Nat.le_of_ble_eq_true rfl) (Nat.le_of_ble_eq_true rfl) ?_
        refine V.iadd dX11_readAll_86 ?_
        refine V.as _ (nI_add _ _) ?_
        refine V.icmp_lt (tgt := 100) dX11_readAll_87 rfl (fun c87 => ?_) (fun c87 => ?_)
        · rw [nI_ltI (by omega) (by omega)] at c87
          refine V.iload_n (i := 3) dX11_readAll_100 rfl rfl ?_
          refine V.iret dX11_readAll_101 (Nat.le_of_ble_eq_true rfl) (Nat.le_of_ble_eq_true rfl) ?_
          rw [if_neg (by omega), if_pos (by first | exact Or.inl c87 | exact Or.inr (by simpa using c97))] at hv; rw [← hv] at hp; exact hp
        · rw [nI_ltI (by omega) (by omega)] at c87
          refine V.aload_n (i := 0) dX11_readAll_90 rfl rfl ?_
          refine V.iload_n (i := 3) dX11_readAll_91 rfl rfl ?_
          refine V.bipush dX11_readAll_92 bc_59 ?_
          refine V.cq2D hE dX11_readAll_94 lk_X11_184 rfl (c_isByte hE (rowEnd G' a) _ (by omega) ht' ⟨rfl, rfl⟩) (by decide) (by decide) (Nat.le_of_ble_eq_true rfl) (Nat.le_of_ble_eq_true rfl) (Nat.le_of_ble_eq_true rfl) ?_
          refine V.ifb_ne (tgt := 102) dX11_readAll_97 rfl (fun c97 => ?_) (fun c97 => ?_)
          · refine V.aload_n (i := 0) dX11_readAll_102 rfl rfl ?_
            refine V.iload_n (i := 2) dX11_readAll_103 rfl rfl ?_
            refine V.iload_n (i := 3) dX11_readAll_104 rfl rfl ?_
            refine V.cq2U hE dX11_readAll_105 lk_X11_202 rfl (c_rowTells hE a (rowEnd G' a) ht' hr' rfl (by omega) (of_decide_eq_true c97).1 ⟨rfl, rfl⟩) (by decide) (by decide) (Nat.le_of_ble_eq_true rfl) (Nat.le_of_ble_eq_true rfl) (Nat.le_of_ble_eq_true rfl) ?_
            refine V.iload_n (i := 3) dX11_readAll_108 rfl rfl ?_
            refine V.iconst dX11_readAll_109 ic_1 ?_
            refine V.iadd dX11_readAll_110 ?_
            refine V.as _ (nI_add _ 1) ?_
            refine V.istore_n2 (by decide) dX11_readAll_111 ?_
            refine V.goto (tgt := 65) dX11_readAll_112 rfl ?_
            have he := (of_decide_eq_true c97).1
            rw [if_neg (by omega), if_neg (by rintro (q | q) <;> simp_all)] at hv
            exact ih _ _ ((rowTells_row _ _ _ _ (by decide) (by decide) (by decide)).trans h1) ((rowTells_row _ _ _ _ (by decide) (by decide) (by decide)).trans h2) ((rowTells_row _ _ _ _ (by decide) (by decide) (by decide)).trans h3) (by omega) (by unfold rowLeast at c87; split at c87 <;> omega) hv _
          · refine V.iload_n (i := 3) dX11_readAll_100 rfl rfl ?_
            refine V.iret dX11_readAll_101 (Nat.le_of_ble_eq_true rfl) (Nat.le_of_ble_eq_true rfl) ?_
            rw [if_neg (by omega), if_pos (by first | exact Or.inl c87 | exact Or.inr (by simpa using c97))] at hv; rw [← hv] at hp; exact hp
  have l4 : ∀ m k, k + m = 4 → ∀ l3, V E X RX11 "readAll" cX11_readAll 4 (some .int) 4 0 0 (QM E X post 0 0) (wG σ (ini4 (ini10 (u2 G 23 (nTr G) (nI 99)) (nTr G) 10) (nTr G) k)) 0 0 41 [some (.ref (eQ E 48)), some (.int (G 21 0)), some (.int (nI k)), l3] [] := by
    intro m
    induction m with
    | zero =>
      intro k hk l3
      refine V.iload_n (i := 2) dX11_readAll_41 rfl rfl ?_
      refine V.iconst dX11_readAll_42 ic_4 ?_
      refine V.icmp_geT (tgt := 63) dX11_readAll_43 rfl (nI_le (by omega) (by omega)) ?_
      refine V.iconst dX11_readAll_63 ic_0 ?_
      refine V.istore_n2 (by decide) dX11_readAll_64 ?_
      rw [show k = 4 by omega]
      exact main 61 0 _ ((ini4_row _ _ _ _ (by decide)).trans ((ini10_row _ _ _ _ (by decide)).trans (u2_row (by decide)))) ((ini4_row _ _ _ _ (by decide)).trans ((ini10_row _ _ _ _ (by decide)).trans (u2_row (by decide)))) ((ini4_row _ _ _ _ (by decide)).trans ((ini10_row _ _ _ _ (by decide)).trans (u2_row (by decide)))) (by omega) (by omega) rfl _
    | succ m ih =>
      intro k hk l3
      refine V.iload_n (i := 2) dX11_readAll_41 rfl rfl ?_
      refine V.iconst dX11_readAll_42 ic_4 ?_
      refine V.icmp_geF (tgt := 63) dX11_readAll_43 rfl (nI_ge (by omega) (by omega)) ?_
      refine V.aload_n (i := 0) dX11_readAll_46 rfl rfl ?_
      refine V.mgeta hE dX11_readAll_47 fl_X11_65 rfl ?_
      refine V.iconst dX11_readAll_50 ic_4 ?_
      refine V.iload_n (i := 1) dX11_readAll_51 rfl rfl ?_
      refine V.imul dX11_readAll_52 ?_
      refine V.iload_n (i := 2) dX11_readAll_53 rfl rfl ?_
      refine V.iadd dX11_readAll_54 ?_
      refine V.as (nI (4 * nTr G + k)) (by rw [hr.1, pk_mul, nI_add]) ?_
      refine V.iconst dX11_readAll_55 ic_0 ?_
      refine V.miast hE dX11_readAll_56 rfl rfl rfl (show _ < 24 from (by omega)) ?_
      refine V.iinc2 (by decide) dX11_readAll_57 (inc1 _) ?_
      refine V.goto (tgt := 41) dX11_readAll_60 rfl ?_
      exact ih (k + 1) (by omega) _
  have l10 : ∀ m k, k + m = 10 → ∀ l3, V E X RX11 "readAll" cX11_readAll 4 (some .int) 4 0 0 (QM E X post 0 0) (wG σ (ini10 (u2 G 23 (nTr G) (nI 99)) (nTr G) k)) 0 0 15 [some (.ref (eQ E 48)), some (.int (G 21 0)), some (.int (nI k)), l3] [] := by
    intro m
    induction m with
    | zero =>
      intro k hk l3
      refine V.iload_n (i := 2) dX11_readAll_15 rfl rfl ?_
      refine V.bipush dX11_readAll_16 bc_10 ?_
      refine V.icmp_geT (tgt := 39) dX11_readAll_18 rfl (nI_le (by omega) (by omega)) ?_
      refine V.iconst dX11_readAll_39 ic_0 ?_
      refine V.istore_n2 (by decide) dX11_readAll_40 ?_
      rw [show k = 10 by omega]
      exact l4 4 0 rfl _
    | succ m ih =>
      intro k hk l3
      refine V.iload_n (i := 2) dX11_readAll_15 rfl rfl ?_
      refine V.bipush dX11_readAll_16 bc_10 ?_
      refine V.icmp_geF (tgt := 39) dX11_readAll_18 rfl (nI_ge (by omega) (by omega)) ?_
      refine V.aload_n (i := 0) dX11_readAll_21 rfl rfl ?_
      refine V.mgeta hE dX11_readAll_22 fl_X11_62 rfl ?_
      refine V.bipush dX11_readAll_25 bc_10 ?_
      refine V.iload_n (i := 1) dX11_readAll_27 rfl rfl ?_
      refine V.imul dX11_readAll_28 ?_
      refine V.iload_n (i := 2) dX11_readAll_29 rfl rfl ?_
      refine V.iadd dX11_readAll_30 ?_
      refine V.as (nI (10 * nTr G + k)) (by rw [hr.1, pk_mul, nI_add]) ?_
      refine V.iconst dX11_readAll_31 ic_1 ?_
      refine V.miast hE dX11_readAll_32 rfl rfl rfl (show _ < 60 from (by omega)) ?_
      refine V.iinc2 (by decide) dX11_readAll_33 (inc1 _) ?_
      refine V.goto (tgt := 15) dX11_readAll_36 rfl ?_
      exact ih (k + 1) (by omega) _
  refine V.aload_n (i := 0) dX11_readAll_0 rfl rfl ?_
  refine V.mgeti hE dX11_readAll_1 fl_X11_193 rfl ?_
  refine V.istore_n1 (by decide) dX11_readAll_4 ?_
  refine V.aload_n (i := 0) dX11_readAll_5 rfl rfl ?_
  refine V.mgeta hE dX11_readAll_6 fl_X11_59 rfl ?_
  refine V.iload_n (i := 1) dX11_readAll_9 rfl rfl ?_
  refine V.bipush dX11_readAll_10 bc_99 ?_
  refine V.miast hE dX11_readAll_12 rfl rfl hr.1 (show _ < 6 from (by omega)) ?_
  refine V.iconst dX11_readAll_13 ic_0 ?_
  refine V.istore_n2 (by decide) dX11_readAll_14 ?_
  exact l10 10 0 rfl _
theorem readAll_rows {G : GS} : ∀ m a G', (rd m G' a).2 19 = G' 19 ∧ (rd m G' a).2 21 = G' 21
  | 0, a, G' => ⟨rfl, rfl⟩
  | m + 1, a, G' => by
    unfold rd
    split
    · exact ⟨rfl, rfl⟩
    · split
      · exact ⟨rfl, rfl⟩
      · obtain ⟨h1, h2⟩ := readAll_rows (G := G) m (rowEnd G' a + 1) (rowTells G' a (rowEnd G' a))
        exact ⟨h1.trans (rowTells_row _ _ _ _ (by decide) (by decide) (by decide)), h2.trans (rowTells_row _ _ _ _ (by decide) (by decide) (by decide))⟩
theorem readAll_21 (G : GS) : (readAll G).2 21 = G 21 := by
  unfold readAll
  rw [(readAll_rows (G := G) _ _ _).2, ini4_row _ _ _ _ (by decide), ini10_row _ _ _ _ (by decide), u2_row (by decide)]
theorem rd_lt {G : GS} : ∀ m a G' e, (rd m G' a).1 = some e → a + 10 * m < 100000 → e < 100000
  | 0, a, G', e, h, _ => by cases h
  | m + 1, a, G', e, h, hm => by
    have hRE : rowEnd G' a ≤ a + 3 := by
      unfold rowEnd
      repeat' split
      all_goals omega
    unfold rd at h
    split at h
    · cases h
    · split at h
      · cases h; omega
      · exact rd_lt (G := G) m _ _ e h (by omega)
set_option maxRecDepth 100000 in
theorem c_treaty (hE : eF E = true) (on : Int32) (hI : Inv G) (hp : post (some (.int (s_treaty G on).1)) (wG σ (s_treaty G on).2)) : MX11_treaty E 5 0 0 [.ref (eQ E 48), .int on] (wG σ G) post := by
  refine MA.of RX11 "treaty" [some (.ref (eQ E 48)), some (.int on), none] rfl rfl rfl (catAll rfl) (Nat.le_of_ble_eq_true rfl) rfl (fun X => ?_)
  have hn := hI.trN
  have h21 : ∀ i, (readAll G).2 21 i = G 21 i := fun i => by rw [readAll_21]
  have hge := optI_ge (readAll G).1 (fun c h => by have := rd_lt (G := G) _ _ _ _ h (by decide); omega)
  have hz : (0 ≤ on.toInt ∧ on.toInt ≤ 9999) → nTr G ≠ 6 → s_treaty G on = match (readAll G).1 with
      | some e => ((-10) - nI e, u2 (readAll G).2 19 0 (nI 0))
      | none => (nI (nTr G + 1), u2 (u2 (u2 (readAll G).2 19 0 (nI 0)) 22 (nTr G) on) 21 0 (nI (nTr G + 1))) := fun h1 h2 => (if_pos h1).trans (if_neg h2)
  refine V.iload_n (i := 1) dX11_treaty_0 rfl rfl ?_
  refine V.cs1D dX11_treaty_1 lk_X11_159 (c_isDay _ ⟨rfl, rfl⟩) (by decide) (by decide) (Nat.le_of_ble_eq_true rfl) (Nat.le_of_ble_eq_true rfl) (Nat.le_of_ble_eq_true rfl) ?_
  refine V.ifb_ne (tgt := 13) dX11_treaty_4 rfl (fun c4 => ?_) (fun c4 => ?_)
  · refine V.aload_n (i := 0) dX11_treaty_13 rfl rfl ?_
    refine V.mgeti hE dX11_treaty_14 fl_X11_193 rfl ?_
    refine V.bipush dX11_treaty_17 bc_6 ?_
    refine V.icmp_ne (tgt := 28) dX11_treaty_19 rfl (fun c19 => ?_) (fun c19 => ?_)
    · have hne : nTr G ≠ 6 := fun e => c19 (by rw [hn.1, e])
      refine V.aload_n (i := 0) dX11_treaty_28 rfl rfl ?_
      refine V.cq0D hE dX11_treaty_29 lk_X11_206 rfl (c_readAll hE hI.tpN ⟨hn.1, by omega⟩ ⟨rfl, rfl⟩) (by decide) (by decide) (Nat.le_of_ble_eq_true rfl) (Nat.le_of_ble_eq_true rfl) (Nat.le_of_ble_eq_true rfl) ?_
      refine V.istore_n2 (by decide) dX11_treaty_32 ?_
      refine V.aload_n (i := 0) dX11_treaty_33 rfl rfl ?_
      refine V.iconst dX11_treaty_34 ic_0 ?_
      refine V.mputi hE dX11_treaty_35 fl_X11_181 rfl rfl rfl ?_
      refine V.iload_n (i := 2) dX11_treaty_38 rfl rfl ?_
      refine V.if_lt (tgt := 47) dX11_treaty_39 rfl (fun c39 => ?_) (fun c39 => ?_)
      · rw [← Int32.not_le, hge] at c39
        have he := Classical.not_not.mp c39
        refine V.aload_n (i := 0) dX11_treaty_47 rfl rfl ?_
        refine V.mgeta hE dX11_treaty_48 fl_X11_56 rfl ?_
        refine V.aload_n (i := 0) dX11_treaty_51 rfl rfl ?_
        refine V.mgeti hE dX11_treaty_52 fl_X11_193 rfl ?_
        refine V.iload_n (i := 1) dX11_treaty_55 rfl rfl ?_
        refine V.miast hE dX11_treaty_56 rfl rfl ((h21 0).trans hn.1) (show _ < 6 from (by omega)) ?_
        refine V.aload_n (i := 0) dX11_treaty_57 rfl rfl ?_
        refine V.dup dX11_treaty_58 rfl ?_
        refine V.mgeti hE dX11_treaty_59 fl_X11_193 rfl ?_
        refine V.iconst dX11_treaty_62 ic_1 ?_
        refine V.iadd dX11_treaty_63 ?_
        refine V.as (nI (nTr G + 1)) (show (readAll G).2 21 0 + nI 1 = _ by rw [h21, hn.1, nI_add]) ?_
        refine V.mputi hE dX11_treaty_64 fl_X11_193 rfl rfl rfl ?_
        refine V.aload_n (i := 0) dX11_treaty_67 rfl rfl ?_
        refine V.mgeti hE dX11_treaty_68 fl_X11_193 rfl ?_
        refine V.iret dX11_treaty_71 (Nat.le_of_ble_eq_true rfl) (Nat.le_of_ble_eq_true rfl) ?_
        refine pr_post (x := _) (g := _) ((hz c4 hne).trans ?_) hp; rw [he]; rfl
      · rw [← Int32.not_le, hge] at c39
        obtain ⟨e, he⟩ := Option.ne_none_iff_exists'.mp (Classical.not_not.mp c39)
        refine V.bipush dX11_treaty_42 bc_m10 ?_
        refine V.iload_n (i := 2) dX11_treaty_44 rfl rfl ?_
        refine V.isub dX11_treaty_45 ?_
        refine V.iret dX11_treaty_46 (Nat.le_of_ble_eq_true rfl) (Nat.le_of_ble_eq_true rfl) ?_
        refine pr_post (x := _) (g := _) ((hz c4 hne).trans ?_) hp; rw [he]; rfl
    · refine V.aload_n (i := 0) dX11_treaty_22 rfl rfl ?_
      refine V.iconst dX11_treaty_23 ic_4 ?_
      refine V.cq1D hE dX11_treaty_24 lk_X11_137 rfl (c_finding hE _ (by decide) ⟨rfl, rfl⟩) (by decide) (by decide) (Nat.le_of_ble_eq_true rfl) (Nat.le_of_ble_eq_true rfl) (Nat.le_of_ble_eq_true rfl) ?_
      refine V.iret dX11_treaty_27 (Nat.le_of_ble_eq_true rfl) (Nat.le_of_ble_eq_true rfl) ?_
      exact pr_post ((if_pos (by omega)).trans (if_pos (by have := hn.1.symm.trans c19; exact (nI_eq (by omega) (by decide)).mp this))) hp
  · refine V.aload_n (i := 0) dX11_treaty_7 rfl rfl ?_
    refine V.iconst dX11_treaty_8 ic_1 ?_
    refine V.cq1D hE dX11_treaty_9 lk_X11_137 rfl (c_finding hE _ (by decide) ⟨rfl, rfl⟩) (by decide) (by decide) (Nat.le_of_ble_eq_true rfl) (Nat.le_of_ble_eq_true rfl) (Nat.le_of_ble_eq_true rfl) ?_
    refine V.iret dX11_treaty_12 (Nat.le_of_ble_eq_true rfl) (Nat.le_of_ble_eq_true rfl) ?_
    exact pr_post (if_neg (by omega)) hp
set_option maxRecDepth 100000 in
theorem c_forceOn (hE : eF E = true) (on : Int32) (hI : Inv G) (hp : post (some (.int (optI (frc G on)))) (wG σ G)) : MX11_forceOn E 1 0 0 [.ref (eQ E 48), .int on] (wG σ G) post := by
  refine MA.of RX11 "forceOn" [some (.ref (eQ E 48)), some (.int on), none] rfl rfl rfl (catAll rfl) (Nat.le_of_ble_eq_true rfl) rfl (fun X => ?_)
  have hn := hI.trN
  have loop : ∀ k, k ≤ nTr G → frcK G on k = frc G on → V E X RX11 "forceOn" cX11_forceOn 3 (some .int) 1 0 0 (QM E X post 0 0) (wG σ G) 0 0 7 [some (.ref (eQ E 48)), some (.int on), some (.int (nI k - nI 1))] [] := by
    intro k
    induction k with
    | zero =>
      intro hk hv
      refine V.iload_n (i := 2) dX11_forceOn_7 rfl rfl ?_
      refine V.if_ltT (tgt := 27) dX11_forceOn_8 rfl (by decide) ?_
      refine V.iload_n (i := 2) dX11_forceOn_27 rfl rfl ?_
      refine V.iret dX11_forceOn_28 (Nat.le_of_ble_eq_true rfl) (Nat.le_of_ble_eq_true rfl) ?_
      exact i_post (by rw [← hv]; rfl) hp
    | succ k ih =>
      intro hk hv
      rw [frcK] at hv
      have e1 : nI (k + 1) - nI 1 = nI k := pk_sub (by omega)
      rw [e1]
      refine V.iload_n (i := 2) dX11_forceOn_7 rfl rfl ?_
      refine V.if_ltF (tgt := 27) dX11_forceOn_8 rfl (nI_pos (by omega)) ?_
      refine V.aload_n (i := 0) dX11_forceOn_11 rfl rfl ?_
      refine V.mgeta hE dX11_forceOn_12 fl_X11_56 rfl ?_
      refine V.iload_n (i := 2) dX11_forceOn_15 rfl rfl ?_
      refine V.miald hE dX11_forceOn_16 rfl rfl rfl (show _ < 6 from (by omega)) ?_
      refine V.iload_n (i := 1) dX11_forceOn_17 rfl rfl ?_
      refine V.icmp_le (tgt := 27) dX11_forceOn_18 rfl (fun c18 => ?_) (fun c18 => ?_)
      · refine V.iload_n (i := 2) dX11_forceOn_27 rfl rfl ?_
        refine V.iret dX11_forceOn_28 (Nat.le_of_ble_eq_true rfl) (Nat.le_of_ble_eq_true rfl) ?_
        exact i_post (by rw [← hv, if_pos c18]; rfl) hp
      · refine V.iinc2 (by decide) dX11_forceOn_21 (dec1 k) ?_
        refine V.goto (tgt := 7) dX11_forceOn_24 rfl ?_
        exact ih (by omega) ((if_neg c18).symm.trans hv)
  refine V.aload_n (i := 0) dX11_forceOn_0 rfl rfl ?_
  refine V.mgeti hE dX11_forceOn_1 fl_X11_193 rfl ?_
  refine V.iconst dX11_forceOn_4 ic_1 ?_
  refine V.isub dX11_forceOn_5 ?_
  refine V.as (nI (nTr G) - nI 1) (by rw [hn.1]) ?_
  refine V.istore_n2 (by decide) dX11_forceOn_6 ?_
  exact loop _ (Nat.le_refl _) rfl
set_option maxRecDepth 100000 in
theorem c_says (hE : eF E = true) (on w : Int32) (hI : Inv G) (hp : post (some (.int (s_says G on w).1)) (wG σ (s_says G on w).2)) : MX11_says E 3 0 0 [.ref (eQ E 48), .int on, .int w] (wG σ G) post := by
  refine MA.of RX11 "says" [some (.ref (eQ E 48)), some (.int on), some (.int w), none] rfl rfl rfl (catAll rfl) (Nat.le_of_ble_eq_true rfl) rfl (fun X => ?_)
  have hn := hI.trN
  have L39 : ((0 ≤ on.toInt ∧ on.toInt ≤ 9999) ∧ (w.toInt = 0 ∨ (10 ≤ w.toInt ∧ w.toInt ≤ 19) ∨ (20 ≤ w.toInt ∧ w.toInt ≤ 23))) → V E X RX11 "says" cX11_says 4 (some .int) 3 0 0 (QM E X post 0 0) (wG σ G) 0 0 39 [some (.ref (eQ E 48)), some (.int on), some (.int w), none] [] := by
    intro hg
    have hz : s_says G on w = (match frc G on with
      | none => fnd G 2
      | some t => (if tn w = 0 then G 23 t else if tn w < 20 then G 24 (10 * t + (tn w - 10)) else G 25 (4 * t + (tn w - 20)), G)) := if_pos hg
    have hge := optI_ge (frc G on) (fun c h => by have := frcK_lt _ _ _ _ h; omega)
    obtain ⟨j, hj, rfl⟩ := idxOf (x := w) (n := 24) (by omega)
    rw [toI j (by omega)] at hg
    rw [tn_nI (by omega)] at hz
    refine V.aload_n (i := 0) dX11_says_39 rfl rfl ?_
    refine V.iload_n (i := 1) dX11_says_40 rfl rfl ?_
    refine V.cq1D hE dX11_says_41 lk_X11_210 rfl (c_forceOn hE on hI ⟨rfl, rfl⟩) (by decide) (by decide) (Nat.le_of_ble_eq_true rfl) (Nat.le_of_ble_eq_true rfl) (Nat.le_of_ble_eq_true rfl) ?_
    refine V.istore_n3 (by decide) dX11_says_44 ?_
    refine V.iload_n (i := 3) dX11_says_45 rfl rfl ?_
    refine V.if_ge (tgt := 55) dX11_says_46 rfl (fun c46 => ?_) (fun c46 => ?_)
    · rw [hge] at c46
      obtain ⟨t, htt⟩ := Option.ne_none_iff_exists'.mp c46
      have ht6 := frcK_lt _ _ _ _ htt
      have hot : optI (frc G on) = nI t := by rw [htt]; rfl
      have hzz := pr_post (σ := σ) (post := post) (hz.trans (by rw [htt])) (show post (some (.int (s_says G on (nI j)).1)) (wG σ (s_says G on (nI j)).2) from hp)
      refine V.iload_n (i := 2) dX11_says_55 rfl rfl ?_
      refine V.if_ne (tgt := 68) dX11_says_56 rfl (fun c56 => ?_) (fun c56 => ?_)
      · rw [show (0 : Int32) = nI 0 from rfl, nI_eq (by omega) (by decide)] at c56
        refine V.iload_n (i := 2) dX11_says_68 rfl rfl ?_
        refine V.bipush dX11_says_69 bc_20 ?_
        refine V.icmp_ge (tgt := 91) dX11_says_71 rfl (fun c71 => ?_) (fun c71 => ?_)
        · rw [nI_leI (by decide) (by omega)] at c71
          refine V.aload_n (i := 0) dX11_says_91 rfl rfl ?_
          refine V.mgeta hE dX11_says_92 fl_X11_65 rfl ?_
          refine V.iconst dX11_says_95 ic_4 ?_
          refine V.iload_n (i := 3) dX11_says_96 rfl rfl ?_
          refine V.imul dX11_says_97 ?_
          refine V.iload_n (i := 2) dX11_says_98 rfl rfl ?_
          refine V.iadd dX11_says_99 ?_
          refine V.bipush dX11_says_100 bc_20 ?_
          refine V.isub dX11_says_102 ?_
          refine V.as (nI (4 * t + (j - 20))) (by rw [hot, pk_mul, nI_add, pk_sub (by omega)]; congr 1; omega) ?_
          refine V.miald hE dX11_says_103 rfl rfl rfl (show _ < 24 from (by omega)) ?_
          refine V.iret dX11_says_104 (Nat.le_of_ble_eq_true rfl) (Nat.le_of_ble_eq_true rfl) ?_
          first | (rw [if_pos c56] at hzz; exact hzz) | (rw [if_neg c56, if_pos (by omega)] at hzz; exact hzz) | (rw [if_neg c56, if_neg (by omega)] at hzz; exact hzz)
        · rw [nI_leI (by decide) (by omega)] at c71
          refine V.aload_n (i := 0) dX11_says_74 rfl rfl ?_
          refine V.mgeta hE dX11_says_75 fl_X11_62 rfl ?_
          refine V.bipush dX11_says_78 bc_10 ?_
          refine V.iload_n (i := 3) dX11_says_80 rfl rfl ?_
          refine V.imul dX11_says_81 ?_
          refine V.iload_n (i := 2) dX11_says_82 rfl rfl ?_
          refine V.iadd dX11_says_83 ?_
          refine V.bipush dX11_says_84 bc_10 ?_
          refine V.isub dX11_says_86 ?_
          refine V.as (nI (10 * t + (j - 10))) (by rw [hot, pk_mul, nI_add, pk_sub (by omega)]; congr 1; omega) ?_
          refine V.miald hE dX11_says_87 rfl rfl rfl (show _ < 60 from (by omega)) ?_
          refine V.goto (tgt := 104) dX11_says_88 rfl ?_
          refine V.iret dX11_says_104 (Nat.le_of_ble_eq_true rfl) (Nat.le_of_ble_eq_true rfl) ?_
          first | (rw [if_pos c56] at hzz; exact hzz) | (rw [if_neg c56, if_pos (by omega)] at hzz; exact hzz) | (rw [if_neg c56, if_neg (by omega)] at hzz; exact hzz)
      · rw [show (0 : Int32) = nI 0 from rfl, nI_eq (by omega) (by decide)] at c56
        refine V.aload_n (i := 0) dX11_says_59 rfl rfl ?_
        refine V.mgeta hE dX11_says_60 fl_X11_59 rfl ?_
        refine V.iload_n (i := 3) dX11_says_63 rfl rfl ?_
        refine V.as _ hot ?_
        refine V.miald hE dX11_says_64 rfl rfl rfl (show _ < 6 from (by omega)) ?_
        refine V.goto (tgt := 104) dX11_says_65 rfl ?_
        refine V.iret dX11_says_104 (Nat.le_of_ble_eq_true rfl) (Nat.le_of_ble_eq_true rfl) ?_
        first | (rw [if_pos c56] at hzz; exact hzz) | (rw [if_neg c56, if_pos (by omega)] at hzz; exact hzz) | (rw [if_neg c56, if_neg (by omega)] at hzz; exact hzz)
    · rw [hge] at c46
      refine V.aload_n (i := 0) dX11_says_49 rfl rfl ?_
      refine V.iconst dX11_says_50 ic_2 ?_
      refine V.cq1D hE dX11_says_51 lk_X11_137 rfl (c_finding hE _ (by decide) ⟨rfl, rfl⟩) (by decide) (by decide) (Nat.le_of_ble_eq_true rfl) (Nat.le_of_ble_eq_true rfl) (Nat.le_of_ble_eq_true rfl) ?_
      refine V.iret dX11_says_54 (Nat.le_of_ble_eq_true rfl) (Nat.le_of_ble_eq_true rfl) ?_
      exact pr_post (hz.trans (by rw [Classical.not_not.mp c46])) hp
  refine V.iload_n (i := 1) dX11_says_0 rfl rfl ?_
  refine V.cs1D dX11_says_1 lk_X11_159 (c_isDay _ ⟨rfl, rfl⟩) (by decide) (by decide) (Nat.le_of_ble_eq_true rfl) (Nat.le_of_ble_eq_true rfl) (Nat.le_of_ble_eq_true rfl) ?_
  refine V.ifb_eq (tgt := 33) dX11_says_4 rfl (fun c4 => ?_) (fun c4 => ?_)
  · refine V.aload_n (i := 0) dX11_says_33 rfl rfl ?_
    refine V.iconst dX11_says_34 ic_1 ?_
    refine V.cq1D hE dX11_says_35 lk_X11_137 rfl (c_finding hE _ (by decide) ⟨rfl, rfl⟩) (by decide) (by decide) (Nat.le_of_ble_eq_true rfl) (Nat.le_of_ble_eq_true rfl) (Nat.le_of_ble_eq_true rfl) ?_
    refine V.iret dX11_says_38 (Nat.le_of_ble_eq_true rfl) (Nat.le_of_ble_eq_true rfl) ?_
    exact pr_post (if_neg (by omega)) hp
  · refine V.iload_n (i := 2) dX11_says_7 rfl rfl ?_
    refine V.if_eq (tgt := 39) dX11_says_8 rfl (fun c8 => ?_) (fun c8 => ?_)
    · rw [fa_eq, show (0 : Int32).toInt = 0 from rfl] at c8
      exact L39 (by omega)
    · rw [fa_eq, show (0 : Int32).toInt = 0 from rfl] at c8
      refine V.iload_n (i := 2) dX11_says_11 rfl rfl ?_
      refine V.bipush dX11_says_12 bc_10 ?_
      refine V.bipush dX11_says_14 bc_19 ?_
      refine V.cs3D dX11_says_16 lk_X11_124 (c_isInN _ 10 19 (by decide) (by decide) ⟨rfl, rfl⟩) (by decide) (by decide) (Nat.le_of_ble_eq_true rfl) (Nat.le_of_ble_eq_true rfl) (Nat.le_of_ble_eq_true rfl) ?_
      refine V.ifb_ne (tgt := 39) dX11_says_19 rfl (fun c19 => ?_) (fun c19 => ?_)
      · exact L39 (by omega)
      · refine V.iload_n (i := 2) dX11_says_22 rfl rfl ?_
        refine V.bipush dX11_says_23 bc_20 ?_
        refine V.bipush dX11_says_25 bc_23 ?_
        refine V.cs3D dX11_says_27 lk_X11_124 (c_isInN _ 20 23 (by decide) (by decide) ⟨rfl, rfl⟩) (by decide) (by decide) (Nat.le_of_ble_eq_true rfl) (Nat.le_of_ble_eq_true rfl) (Nat.le_of_ble_eq_true rfl) ?_
        refine V.ifb_ne (tgt := 39) dX11_says_30 rfl (fun c30 => ?_) (fun c30 => ?_)
        · exact L39 (by omega)
        · refine V.aload_n (i := 0) dX11_says_33 rfl rfl ?_
          refine V.iconst dX11_says_34 ic_1 ?_
          refine V.cq1D hE dX11_says_35 lk_X11_137 rfl (c_finding hE _ (by decide) ⟨rfl, rfl⟩) (by decide) (by decide) (Nat.le_of_ble_eq_true rfl) (Nat.le_of_ble_eq_true rfl) (Nat.le_of_ble_eq_true rfl) ?_
          refine V.iret dX11_says_38 (Nat.le_of_ble_eq_true rfl) (Nat.le_of_ble_eq_true rfl) ?_
          exact pr_post (if_neg (by omega)) hp
end REF5

