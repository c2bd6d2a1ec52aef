/-! ===== the model: boarding ===== -/
def GA (G : GS) (port : Int32) (s : Nat) (G' : GS) : Prop :=
  eqL G' G ∧ G' 42 0 = nI (atPort G port s).length ∧ ∀ k, k < (atPort G port s).length → G' 43 k = nI ((atPort G port s).getD k 0) ∧ G' 44 k = nI (riskN G ((atPort G port s).getD k 0))
def TF (σ : Sg) (G : GS) (i : Nat) (res : (Nat → Int32) × Int) (s : Sg) : Prop := ∃ G', s = wG σ G' ∧ (∀ r, r < 45 → G' r = G r) ∧ (∀ k, k < i → G' 45 k = G 45 k) ∧ (G' 46, (G' 47 0).toInt) = res
theorem eqL_u2 {G' G : GS} (e : eqL G' G) {k j : Nat} {v : Int32} (h : 42 ≤ k) : eqL (u2 G' k j v) G := fun r hr => by rw [u2_row (by omega)]; exact e r hr
def cpK (G : GS) : Nat → GS
  | 0 => G
  | k + 1 => u2 (cpK G k) 46 k (G 45 k)
theorem cpK_row (G : GS) : ∀ k r, r ≠ 46 → cpK G k r = G r
  | 0, r, _ => rfl
  | k + 1, r, h => by unfold cpK; rw [u2_row h]; exact cpK_row G k r h
theorem cpK_46 (G : GS) : ∀ n k, cpK G n 46 k = if k < n then G 45 k else G 46 k
  | 0, k => by simp [cpK]
  | n + 1, k => by
    unfold cpK
    rw [u2_at]
    by_cases e : k = n
    · subst e; simp
    · rw [if_neg e, cpK_46 G n k]
      by_cases q : k < n
      · rw [if_pos q, if_pos (by omega)]
      · rw [if_neg q, if_neg (by omega)]
theorem gaAdd {G G' : GS} {port : Int32} {k : Nat} (hg : GA G port k G') (hin : inPort G port k = true) (hl : (atPort G port k).length < 8) : GA G port (k + 1) (u2 (u2 (u2 G' 43 (atPort G port k).length (nI k)) 44 (atPort G port k).length (nI (riskN G k))) 42 0 (nI ((atPort G port k).length + 1))) := by
  unfold GA
  rw [show atPort G port (k + 1) = atPort G port k ++ [k] from if_pos ⟨hl, hin⟩]
  refine ⟨eqL_u2 (eqL_u2 (eqL_u2 hg.1 (by decide)) (by decide)) (by decide), ?_, fun j hj => ?_⟩
  · rw [u2_eq]; simp
  · simp at hj
    show u2 G' 43 (atPort G port k).length (nI k) 43 j = _ ∧ u2 G' 44 (atPort G port k).length (nI (riskN G k)) 44 j = _
    by_cases e : j = (atPort G port k).length
    · subst e
      rw [u2_eq, u2_eq, getD_app_last]
      exact ⟨rfl, rfl⟩
    · rw [u2_ne e, u2_ne e, getD_app_lt (by omega)]
      exact hg.2.2 j (by omega)
theorem upd_pre {G : GS} {T : Nat → Int32} {i : Nat} {v : Int32} (h : ∀ k, k < i → G 45 k = T k) : ∀ k, k < i + 1 → u2 G 45 i v 45 k = upd T i v k := by
  intro k hk
  unfold upd
  by_cases q : k = i
  · subst q
    rw [u2_eq, if_pos rfl]
  · rw [u2_ne q, if_neg q]
    exact h k (by omega)
theorem hoursN_le (G : GS) (i : Nat) : hoursN G i ≤ 7 := by
  unfold hoursN
  repeat' split
  all_goals omega
section REF13
variable {E : VE} {σ : Sg} {G : GS} {post : Option Value → Sg → Prop}
set_option maxRecDepth 100000 in
theorem c_gather (hE : eF E = true) (port : Int32) (hI : Inv G) (hp : ∀ s, (∃ G', s = wG σ G' ∧ GA G port (nSh G) G') → post none s) : MX11_gather E 5 0 0 [.ref (eQ E 48), .int port] (wG σ G) post := by
  refine MA.of RX11 "gather" [some (.ref (eQ E 48)), some (.int port), none, none] rfl rfl rfl (catAll rfl) (Nat.le_of_ble_eq_true rfl) rfl (fun X => ?_)
  have hs := hI.shN
  have h50 := hI.caN.2
  have loop : ∀ m k G', k + m = nSh G → GA G port k G' → ∀ l3, V E X RX11 "gather" cX11_gather 4 none 5 0 0 (QM E X post 0 0) (wG σ G') 0 0 7 [some (.ref (eQ E 48)), some (.int port), some (.int (nI k)), l3] [] := by
    intro m
    induction m with
    | zero =>
      intro k G' hk hg l3
      refine V.iload_n (i := 2) dX11_gather_7 rfl rfl ?_
      refine V.aload_n (i := 0) dX11_gather_8 rfl rfl ?_
      refine V.mgeti hE dX11_gather_9 fl_X11_121 rfl ?_
      refine V.icmp_geT (tgt := 84) dX11_gather_12 rfl (by rw [show G' 1 0 = _ from (congrFun (hg.1 1 (by decide)) 0).trans hs.1]; exact nI_le (by omega) (by omega)) ?_
      refine V.vret dX11_gather_84 (Nat.le_of_ble_eq_true rfl) (Nat.le_of_ble_eq_true rfl) ?_
      exact hp _ ⟨G', rfl, by rw [← show k = nSh G by omega]; exact hg⟩
    | succ m ih =>
      intro k G' hk hg l3
      have hlen := atPort_le G port k
      have hI' := hI.eqL hg.1
      have hop := openOf_c hg.1 (nI k)
      have next : ∀ G', GA G port (k + 1) G' → ∀ l3, V E X RX11 "gather" cX11_gather 4 none 5 0 0 (QM E X post 0 0) (wG σ G') 0 0 78 [some (.ref (eQ E 48)), some (.int port), some (.int (nI k)), l3] [] := by
        intro G' hg l3
        refine V.iinc2 (by decide) dX11_gather_78 (inc1 _) ?_
        refine V.goto (tgt := 7) dX11_gather_81 rfl ?_
        exact ih (k + 1) _ (by omega) hg _
      refine V.iload_n (i := 2) dX11_gather_7 rfl rfl ?_
      refine V.aload_n (i := 0) dX11_gather_8 rfl rfl ?_
      refine V.mgeti hE dX11_gather_9 fl_X11_121 rfl ?_
      refine V.icmp_geF (tgt := 84) dX11_gather_12 rfl (by rw [show G' 1 0 = _ from (congrFun (hg.1 1 (by decide)) 0).trans hs.1]; exact nI_ge (by omega) (by omega)) ?_
      refine V.aload_n (i := 0) dX11_gather_15 rfl rfl ?_
      refine V.mgeti hE dX11_gather_16 fl_X11_238 rfl ?_
      refine V.bipush dX11_gather_19 bc_8 ?_
      refine V.icmp_ge (tgt := 84) dX11_gather_21 rfl (fun c21 => ?_) (fun c21 => ?_)
      · rw [hg.2.1, nI_leI (by decide) (by omega)] at c21
        refine V.vret dX11_gather_84 (Nat.le_of_ble_eq_true rfl) (Nat.le_of_ble_eq_true rfl) ?_
        exact hp _ ⟨G', rfl, by have := atPort_full G port k c21 (nSh G - k); rw [show k + (nSh G - k) = nSh G by omega] at this; unfold GA; rw [this]; exact hg⟩
      · rw [hg.2.1, nI_leI (by decide) (by omega)] at c21
        refine V.aload_n (i := 0) dX11_gather_24 rfl rfl ?_
        refine V.iload_n (i := 2) dX11_gather_25 rfl rfl ?_
        refine V.cq1D hE dX11_gather_26 lk_X11_172 rfl (c_openCall hE _ hI' ⟨rfl, rfl⟩) (by decide) (by decide) (Nat.le_of_ble_eq_true rfl) (Nat.le_of_ble_eq_true rfl) (Nat.le_of_ble_eq_true rfl) ?_
        refine V.as _ (by rw [hop]) ?_
        refine V.istore_n3 (by decide) dX11_gather_29 ?_
        refine V.iload_n (i := 3) dX11_gather_30 rfl rfl ?_
        refine V.if_lt (tgt := 78) dX11_gather_31 rfl (fun c31 => ?_) (fun c31 => ?_)
        · rw [← Int32.not_le, optI_ge _ (fun c h => by have := openK_lt _ _ _ _ h; omega)] at c31
          have hin : inPort G port k = false := by unfold inPort; rw [Classical.not_not.mp c31]
          first | exact next _ (by unfold GA; rw [show atPort G port (k + 1) = atPort G port k from if_neg (by rw [hin]; simp)]; exact hg) _ | exact next _ (gaAdd hg hin (by omega)) _
        · rw [← Int32.not_le, optI_ge _ (fun c h => by have := openK_lt _ _ _ _ h; omega)] at c31
          obtain ⟨c, hc⟩ := Option.ne_none_iff_exists'.mp (Classical.not_not.mp c31)
          have hc50 := openK_lt _ _ _ _ hc
          refine V.aload_n (i := 0) dX11_gather_34 rfl rfl ?_
          refine V.mgeta hE dX11_gather_35 fl_X11_40 rfl ?_
          refine V.iload_n (i := 3) dX11_gather_38 rfl rfl ?_
          refine V.as (nI c) (by rw [hc]; rfl) ?_
          refine V.miald hE dX11_gather_39 rfl rfl rfl (show _ < 50 from (by omega)) ?_
          refine V.iload_n (i := 1) dX11_gather_40 rfl rfl ?_
          refine V.icmp_ne (tgt := 78) dX11_gather_41 rfl (fun c41 => ?_) (fun c41 => ?_)
          · have hin : inPort G port k = false := by unfold inPort; rw [hc]; simp; rw [← hg.1 15 (by decide)]; exact c41
            first | exact next _ (by unfold GA; rw [show atPort G port (k + 1) = atPort G port k from if_neg (by rw [hin]; simp)]; exact hg) _ | exact next _ (gaAdd hg hin (by omega)) _
          · have hin : inPort G port k = true := by unfold inPort; rw [hc]; simp; rw [← hg.1 15 (by decide)]; exact c41
            refine V.aload_n (i := 0) dX11_gather_44 rfl rfl ?_
            refine V.mgeta hE dX11_gather_45 fl_X11_108 rfl ?_
            refine V.aload_n (i := 0) dX11_gather_48 rfl rfl ?_
            refine V.mgeti hE dX11_gather_49 fl_X11_238 rfl ?_
            refine V.iload_n (i := 2) dX11_gather_52 rfl rfl ?_
            refine V.miast hE dX11_gather_53 rfl rfl hg.2.1 (show _ < 8 from (by omega)) ?_
            refine V.aload_n (i := 0) dX11_gather_54 rfl rfl ?_
            refine V.mgeta hE dX11_gather_55 fl_X11_111 rfl ?_
            refine V.aload_n (i := 0) dX11_gather_58 rfl rfl ?_
            refine V.mgeti hE dX11_gather_59 fl_X11_238 rfl ?_
            refine V.aload_n (i := 0) dX11_gather_62 rfl rfl ?_
            refine V.iload_n (i := 2) dX11_gather_63 rfl rfl ?_
            refine V.cq1D hE dX11_gather_64 lk_X11_235 rfl (c_riskOf hE k (by rw [nSh_c (eqL_u2 hg.1 (by decide))]; omega) (hI.eqL (eqL_u2 hg.1 (by decide))) ⟨rfl, rfl⟩) (by decide) (by decide) (Nat.le_of_ble_eq_true rfl) (Nat.le_of_ble_eq_true rfl) (Nat.le_of_ble_eq_true rfl) ?_
            refine V.as (nI (riskN G k)) (by rw [riskN_c (eqL_u2 hg.1 (by decide))]) ?_
            refine V.miast hE dX11_gather_67 rfl rfl hg.2.1 (show _ < 8 from (by omega)) ?_
            refine V.aload_n (i := 0) dX11_gather_68 rfl rfl ?_
            refine V.dup dX11_gather_69 rfl ?_
            refine V.mgeti hE dX11_gather_70 fl_X11_238 rfl ?_
            refine V.iconst dX11_gather_73 ic_1 ?_
            refine V.iadd dX11_gather_74 ?_
            refine V.as (nI ((atPort G port k).length + 1)) (show G' 42 0 + nI 1 = _ by rw [hg.2.1, nI_add]) ?_
            refine V.mputi hE dX11_gather_75 fl_X11_238 rfl rfl rfl ?_
            first | exact next _ (by unfold GA; rw [show atPort G port (k + 1) = atPort G port k from if_neg (by rw [hin]; simp)]; exact hg) _ | exact next _ (gaAdd hg hin (by omega)) _
  refine V.aload_n (i := 0) dX11_gather_0 rfl rfl ?_
  refine V.iconst dX11_gather_1 ic_0 ?_
  refine V.mputi hE dX11_gather_2 fl_X11_238 rfl rfl rfl ?_
  refine V.iconst dX11_gather_5 ic_0 ?_
  refine V.istore_n2 (by decide) dX11_gather_6 ?_
  exact loop (nSh G) 0 _ (by omega) ⟨fun r hr => u2_row (by omega), rfl, fun k hk => by simp [atPort] at hk⟩ _
set_option maxRecDepth 100000 in
theorem c_tryFrom (hE : eF E = true) (n : Nat) (h ρ who : Nat → Nat) (hn8 : n ≤ 8) (hρ : ∀ k, ρ k ≤ 1000) (hh : ∀ k, h k ≤ 7) (hw16 : ∀ k, k < n → who k < 16) : ∀ (m i f s r : Nat) (T : Nat → Int32) (G : GS) (post : Option Value → Sg → Prop), i + m = n → f ≤ 24 → s ≤ 24 → r ≤ 1000 * i → G 42 0 = nI n → (∀ k, k < n → G 43 k = nI (who k) ∧ hours (G 2 (who k)) = nI (h k) ∧ G 44 k = nI (ρ k)) → (∀ k, k < i → G 45 k = T k) → (∀ t, TF σ G i (bs n h ρ m i f s r T (G 46, (G 47 0).toInt)) t → post none t) →
    MX11_tryFrom E (m + 2) 0 0 [.ref (eQ E 48), .int (nI i), .int (nI f), .int (nI s), .int (nI r)] (wG σ G) post := by
  intro m
  induction m with
  | zero =>
    intro i f s r T G post hin hf hs hr h42 hall hT hp
    refine MA.of RX11 "tryFrom" [some (.ref (eQ E 48)), some (.int (nI i)), some (.int (nI f)), some (.int (nI s)), some (.int (nI r)), none] rfl rfl rfl (catAll rfl) (Nat.le_of_ble_eq_true rfl) rfl (fun X => ?_)
    have loop : (G 47 0).toInt < r → ∀ m k, k + m = n → V E X RX11 "tryFrom" cX11_tryFrom 6 none (0 + 2) 0 0 (QM E X post 0 0) (wG σ (cpK (u2 G 47 0 (nI r)) k)) 0 0 26 [some (.ref (eQ E 48)), some (.int (nI i)), some (.int (nI f)), some (.int (nI s)), some (.int (nI r)), some (.int (nI k))] [] := by
      intro hb m
      induction m with
      | zero =>
        intro k hk
        rw [show k = n by omega]
        refine V.iload (i := 5) dX11_tryFrom_26 rfl ?_
        refine V.aload_n (i := 0) dX11_tryFrom_28 rfl rfl ?_
        refine V.mgeti hE dX11_tryFrom_29 fl_X11_238 rfl ?_
        refine V.icmp_geT (tgt := 55) dX11_tryFrom_32 rfl (by rw [cpK_row _ _ _ (by decide), u2_row (by decide), h42]; exact nI_le (by omega) (by omega)) ?_
        refine V.vret dX11_tryFrom_55 (Nat.le_of_ble_eq_true rfl) (Nat.le_of_ble_eq_true rfl) ?_
        refine hp _ ⟨_, rfl, fun r hr => by rw [cpK_row _ _ _ (by omega), u2_row (by omega)], fun k hk => by rw [cpK_row _ _ _ (by decide), u2_row (by decide)], ?_⟩
        unfold bs
        rw [if_pos hb, cpK_row _ _ 47 (by decide), u2_eq, toI _ (by omega)]
        congr 1
        funext k
        rw [cpK_46, u2_row (by decide), u2_row (by decide)]
        by_cases q : k < n
        · rw [if_pos q, if_pos q]; exact hT k (by omega)
        · rw [if_neg q, if_neg q]
      | succ m ih =>
        intro k hk
        refine V.iload (i := 5) dX11_tryFrom_26 rfl ?_
        refine V.aload_n (i := 0) dX11_tryFrom_28 rfl rfl ?_
        refine V.mgeti hE dX11_tryFrom_29 fl_X11_238 rfl ?_
        refine V.icmp_geF (tgt := 55) dX11_tryFrom_32 rfl (by rw [cpK_row _ _ _ (by decide), u2_row (by decide), h42]; exact nI_ge (by omega) (by omega)) ?_
        refine V.aload_n (i := 0) dX11_tryFrom_35 rfl rfl ?_
        refine V.mgeta hE dX11_tryFrom_36 fl_X11_117 rfl ?_
        refine V.iload (i := 5) dX11_tryFrom_39 rfl ?_
        refine V.aload_n (i := 0) dX11_tryFrom_41 rfl rfl ?_
        refine V.mgeta hE dX11_tryFrom_42 fl_X11_114 rfl ?_
        refine V.iload (i := 5) dX11_tryFrom_45 rfl ?_
        refine V.miald hE dX11_tryFrom_47 rfl rfl rfl (show _ < 8 from (by omega)) ?_
        refine V.as (u2 G 47 0 (nI r) 45 k) (by rw [cpK_row _ _ _ (by decide)]) ?_
        refine V.miast hE dX11_tryFrom_48 rfl rfl rfl (show _ < 8 from (by omega)) ?_
        refine V.iinc5 (by decide) dX11_tryFrom_49 (inc1 _) ?_
        refine V.goto (tgt := 26) dX11_tryFrom_52 rfl ?_
        exact ih (k + 1) (by omega)
    refine V.iload_n (i := 1) dX11_tryFrom_0 rfl rfl ?_
    refine V.aload_n (i := 0) dX11_tryFrom_1 rfl rfl ?_
    refine V.mgeti hE dX11_tryFrom_2 fl_X11_238 rfl ?_
    refine V.icmp_neF (tgt := 56) dX11_tryFrom_5 rfl (by rw [h42, show i = n by omega]) ?_
    refine V.iload (i := 4) dX11_tryFrom_8 rfl ?_
    refine V.aload_n (i := 0) dX11_tryFrom_10 rfl rfl ?_
    refine V.mgeti hE dX11_tryFrom_11 fl_X11_241 rfl ?_
    refine V.icmp_le (tgt := 55) dX11_tryFrom_14 rfl (fun c14 => ?_) (fun c14 => ?_)
    · rw [fa_le, toI _ (by omega)] at c14
      refine V.vret dX11_tryFrom_55 (Nat.le_of_ble_eq_true rfl) (Nat.le_of_ble_eq_true rfl) ?_
      refine hp _ ⟨G, rfl, fun _ _ => rfl, fun _ _ => rfl, ?_⟩
      unfold bs
      rw [if_neg (by omega)]
    · rw [fa_le, toI _ (by omega)] at c14
      refine V.aload_n (i := 0) dX11_tryFrom_17 rfl rfl ?_
      refine V.iload (i := 4) dX11_tryFrom_18 rfl ?_
      refine V.mputi hE dX11_tryFrom_20 fl_X11_241 rfl rfl rfl ?_
      refine V.iconst dX11_tryFrom_23 ic_0 ?_
      refine V.istore5 (by decide) dX11_tryFrom_24 ?_
      exact loop (by omega) n 0 (by omega)
  | succ m ih =>
    intro i f s r T G post hin hf hs hr h42 hall hT hp
    refine MA.of RX11 "tryFrom" [some (.ref (eQ E 48)), some (.int (nI i)), some (.int (nI f)), some (.int (nI s)), some (.int (nI r)), none] rfl rfl rfl (catAll rfl) (Nat.le_of_ble_eq_true rfl) rfl (fun X => ?_)
    have hhi := hh i
    have hρi := hρ i
    -- the last part: the ship goes to none
    have L136 : ∀ G', (∀ r, r < 45 → G' r = G r) → (∀ k, k < i → G' 45 k = T k) → (∀ t, TF σ G i (bs n h ρ m (i + 1) f s r (upd T i (nI 0)) (G' 46, (G' 47 0).toInt)) t → post none t) → ∀ l5, V E X RX11 "tryFrom" cX11_tryFrom 6 none (m + 1 + 2) 0 0 (QM E X post 0 0) (wG σ G') 0 0 136 [some (.ref (eQ E 48)), some (.int (nI i)), some (.int (nI f)), some (.int (nI s)), some (.int (nI r)), l5] [] := by
      intro G' e1 e2 hp l5
      refine V.aload_n (i := 0) dX11_tryFrom_136 rfl rfl ?_
      refine V.mgeta hE dX11_tryFrom_137 fl_X11_114 rfl ?_
      refine V.iload_n (i := 1) dX11_tryFrom_140 rfl rfl ?_
      refine V.iconst dX11_tryFrom_141 ic_0 ?_
      refine V.miast hE dX11_tryFrom_142 rfl rfl rfl (show _ < 8 from (by omega)) ?_
      refine V.aload_n (i := 0) dX11_tryFrom_143 rfl rfl ?_
      refine V.iload_n (i := 1) dX11_tryFrom_144 rfl rfl ?_
      refine V.iconst dX11_tryFrom_145 ic_1 ?_
      refine V.iadd dX11_tryFrom_146 ?_
      refine V.as _ (nI_add i 1) ?_
      refine V.iload_n (i := 2) dX11_tryFrom_147 rfl rfl ?_
      refine V.iload_n (i := 3) dX11_tryFrom_148 rfl rfl ?_
      refine V.iload (i := 4) dX11_tryFrom_149 rfl ?_
      refine V.cq4v hE dX11_tryFrom_151 lk_X11_244 rfl (ih (i + 1) f s r (upd T i (nI 0)) (u2 G' 45 i (nI 0)) _ (by omega) hf hs (by omega) ((congrFun (e1 42 (by decide)) 0).trans h42) (fun k hk => by have := hall k hk; rw [← e1 43 (by decide), ← e1 2 (by decide), ← e1 44 (by decide)] at this; exact this) (upd_pre e2) (fun s h => ⟨rfl, h⟩)) (by omega) (by decide) (Nat.le_of_ble_eq_true rfl) (Nat.le_of_ble_eq_true rfl) (Nat.le_of_ble_eq_true rfl) (fun s151 h151 => ?_)
      obtain ⟨G2, rfl, k1, k2, k3⟩ := h151
      refine V.vret dX11_tryFrom_154 (Nat.le_of_ble_eq_true rfl) (Nat.le_of_ble_eq_true rfl) ?_
      exact hp _ ⟨G2, rfl, fun r hr => (k1 r hr).trans ((u2_row (by omega)).trans (e1 r hr)), fun k hk => by rw [k2 k (by omega), u2_ne (by omega), e2 k hk, hT k hk], k3⟩
    have L102 : ∀ G', (∀ r, r < 45 → G' r = G r) → (∀ k, k < i → G' 45 k = T k) → (∀ t, TF σ G i (bs n h ρ m (i + 1) f s r (upd T i (nI 0)) (if h i ≤ s then bs n h ρ m (i + 1) f (s - h i) (r + ρ i) (upd T i (nI 2)) (G' 46, (G' 47 0).toInt) else (G' 46, (G' 47 0).toInt))) t → post none t) → V E X RX11 "tryFrom" cX11_tryFrom 6 none (m + 1 + 2) 0 0 (QM E X post 0 0) (wG σ G') 0 0 102 [some (.ref (eQ E 48)), some (.int (nI i)), some (.int (nI f)), some (.int (nI s)), some (.int (nI r)), some (.int (nI (h i)))] [] := by
      intro G' e1 e2 hp
      refine V.iload (i := 5) dX11_tryFrom_102 rfl ?_
      refine V.iload_n (i := 3) dX11_tryFrom_104 rfl rfl ?_
      refine V.icmp_gt (tgt := 136) dX11_tryFrom_105 rfl (fun c105 => ?_) (fun c105 => ?_)
      · rw [nI_ltI (by omega) (by omega)] at c105
        rw [if_neg (by omega)] at hp
        first | exact L136 G' e1 e2 hp _ | exact L136 G2 (fun r hr => (k1 r hr).trans ((u2_row (by omega)).trans (e1 r hr))) (fun k hk => by rw [k2 k (by omega), u2_ne (by omega), e2 k hk]) (by rw [k3]; exact hp) _
      · rw [nI_ltI (by omega) (by omega)] at c105
        rw [if_pos (by omega)] at hp
        refine V.aload_n (i := 0) dX11_tryFrom_108 rfl rfl ?_
        refine V.mgeta hE dX11_tryFrom_109 fl_X11_114 rfl ?_
        refine V.iload_n (i := 1) dX11_tryFrom_112 rfl rfl ?_
        refine V.iconst dX11_tryFrom_113 ic_2 ?_
        refine V.miast hE dX11_tryFrom_114 rfl rfl rfl (show _ < 8 from (by omega)) ?_
        refine V.aload_n (i := 0) dX11_tryFrom_115 rfl rfl ?_
        refine V.iload_n (i := 1) dX11_tryFrom_116 rfl rfl ?_
        refine V.iconst dX11_tryFrom_117 ic_1 ?_
        refine V.iadd dX11_tryFrom_118 ?_
        refine V.as _ (nI_add i 1) ?_
        refine V.iload_n (i := 2) dX11_tryFrom_119 rfl rfl ?_
        refine V.iload_n (i := 3) dX11_tryFrom_120 rfl rfl ?_
        refine V.iload (i := 5) dX11_tryFrom_121 rfl ?_
        refine V.isub dX11_tryFrom_123 ?_
        refine V.as _ (pk_sub (by omega)) ?_
        refine V.iload (i := 4) dX11_tryFrom_124 rfl ?_
        refine V.aload_n (i := 0) dX11_tryFrom_126 rfl rfl ?_
        refine V.mgeta hE dX11_tryFrom_127 fl_X11_111 rfl ?_
        refine V.iload_n (i := 1) dX11_tryFrom_130 rfl rfl ?_
        refine V.miald hE dX11_tryFrom_131 rfl rfl rfl (show _ < 8 from (by omega)) ?_
        refine V.as (nI (ρ i)) (by rw [u2_row (by decide), e1 44 (by decide)]; exact (hall i (by omega)).2.2) ?_
        refine V.iadd dX11_tryFrom_132 ?_
        refine V.as _ (nI_add r (ρ i)) ?_
        refine V.cq4v hE dX11_tryFrom_133 lk_X11_244 rfl (ih (i + 1) f (s - h i) (r + ρ i) (upd T i (nI 2)) (u2 G' 45 i (nI 2)) _ (by omega) hf (by omega) (by omega) ((congrFun (e1 42 (by decide)) 0).trans h42) (fun k hk => by have := hall k hk; rw [← e1 43 (by decide), ← e1 2 (by decide), ← e1 44 (by decide)] at this; exact this) (upd_pre e2) (fun s h => ⟨rfl, h⟩)) (by omega) (by decide) (Nat.le_of_ble_eq_true rfl) (Nat.le_of_ble_eq_true rfl) (Nat.le_of_ble_eq_true rfl) (fun s133 h133 => ?_)
        obtain ⟨G2, rfl, k1, k2, k3⟩ := h133
        first | exact L136 G' e1 e2 hp _ | exact L136 G2 (fun r hr => (k1 r hr).trans ((u2_row (by omega)).trans (e1 r hr))) (fun k hk => by rw [k2 k (by omega), u2_ne (by omega), e2 k hk]) (by rw [k3]; exact hp) _
    refine V.iload_n (i := 1) dX11_tryFrom_0 rfl rfl ?_
    refine V.aload_n (i := 0) dX11_tryFrom_1 rfl rfl ?_
    refine V.mgeti hE dX11_tryFrom_2 fl_X11_238 rfl ?_
    refine V.icmp_neT (tgt := 56) dX11_tryFrom_5 rfl (by rw [h42]; exact neN (by omega) (by omega) (by omega)) ?_
    refine V.aload_n (i := 0) dX11_tryFrom_56 rfl rfl ?_
    refine V.aload_n (i := 0) dX11_tryFrom_57 rfl rfl ?_
    refine V.mgeta hE dX11_tryFrom_58 fl_X11_108 rfl ?_
    refine V.iload_n (i := 1) dX11_tryFrom_61 rfl rfl ?_
    refine V.miald hE dX11_tryFrom_62 rfl rfl rfl (show _ < 8 from (by omega)) ?_
    refine V.as _ (hall i (by omega)).1 ?_
    refine V.cq1D hE dX11_tryFrom_63 lk_X11_149 rfl (c_hoursOf hE (who i) (hw16 i (by omega)) ⟨rfl, rfl⟩) (by omega) (by decide) (Nat.le_of_ble_eq_true rfl) (Nat.le_of_ble_eq_true rfl) (Nat.le_of_ble_eq_true rfl) ?_
    refine V.as _ (hall i (by omega)).2.1 ?_
    refine V.istore5 (by decide) dX11_tryFrom_66 ?_
    refine V.iload (i := 5) dX11_tryFrom_68 rfl ?_
    refine V.iload_n (i := 2) dX11_tryFrom_70 rfl rfl ?_
    refine V.icmp_gt (tgt := 102) dX11_tryFrom_71 rfl (fun c71 => ?_) (fun c71 => ?_)
    · rw [nI_ltI (by omega) (by omega)] at c71
      have hp : ∀ t, TF σ G i (bs n h ρ m (i + 1) f s r (upd T i (nI 0)) (if h i ≤ s then bs n h ρ m (i + 1) f (s - h i) (r + ρ i) (upd T i (nI 2)) (G 46, (G 47 0).toInt) else (G 46, (G 47 0).toInt))) t → post none t := by unfold bs at hp; rw [if_neg (show ¬ h i ≤ f by omega)] at hp; exact hp
      first | exact L102 G (fun _ _ => rfl) hT hp | exact L102 G2 (fun r hr => (k1 r hr).trans (u2_row (by omega))) (fun k hk => by rw [k2 k (by omega), u2_ne (by omega), hT k hk]) (by unfold bs at hp; rw [if_pos (show h i ≤ f by omega)] at hp; rw [k3]; exact hp)
    · rw [nI_ltI (by omega) (by omega)] at c71
      refine V.aload_n (i := 0) dX11_tryFrom_74 rfl rfl ?_
      refine V.mgeta hE dX11_tryFrom_75 fl_X11_114 rfl ?_
      refine V.iload_n (i := 1) dX11_tryFrom_78 rfl rfl ?_
      refine V.iconst dX11_tryFrom_79 ic_1 ?_
      refine V.miast hE dX11_tryFrom_80 rfl rfl rfl (show _ < 8 from (by omega)) ?_
      refine V.aload_n (i := 0) dX11_tryFrom_81 rfl rfl ?_
      refine V.iload_n (i := 1) dX11_tryFrom_82 rfl rfl ?_
      refine V.iconst dX11_tryFrom_83 ic_1 ?_
      refine V.iadd dX11_tryFrom_84 ?_
      refine V.as _ (nI_add i 1) ?_
      refine V.iload_n (i := 2) dX11_tryFrom_85 rfl rfl ?_
      refine V.iload (i := 5) dX11_tryFrom_86 rfl ?_
      refine V.isub dX11_tryFrom_88 ?_
      refine V.as _ (pk_sub (by omega)) ?_
      refine V.iload_n (i := 3) dX11_tryFrom_89 rfl rfl ?_
      refine V.iload (i := 4) dX11_tryFrom_90 rfl ?_
      refine V.aload_n (i := 0) dX11_tryFrom_92 rfl rfl ?_
      refine V.mgeta hE dX11_tryFrom_93 fl_X11_111 rfl ?_
      refine V.iload_n (i := 1) dX11_tryFrom_96 rfl rfl ?_
      refine V.miald hE dX11_tryFrom_97 rfl rfl rfl (show _ < 8 from (by omega)) ?_
      refine V.as (nI (ρ i)) (by rw [u2_row (by decide)]; exact (hall i (by omega)).2.2) ?_
      refine V.iadd dX11_tryFrom_98 ?_
      refine V.as _ (nI_add r (ρ i)) ?_
      refine V.cq4v hE dX11_tryFrom_99 lk_X11_244 rfl (ih (i + 1) (f - h i) s (r + ρ i) (upd T i (nI 1)) (u2 G 45 i (nI 1)) _ (by omega) (by omega) hs (by omega) h42 hall (upd_pre hT) (fun s h => ⟨rfl, h⟩)) (by omega) (by decide) (Nat.le_of_ble_eq_true rfl) (Nat.le_of_ble_eq_true rfl) (Nat.le_of_ble_eq_true rfl) (fun s99 h99 => ?_)
      obtain ⟨G2, rfl, k1, k2, k3⟩ := h99
      first | exact L102 G (fun _ _ => rfl) hT hp | exact L102 G2 (fun r hr => (k1 r hr).trans (u2_row (by omega))) (fun k hk => by rw [k2 k (by omega), u2_ne (by omega), hT k hk]) (by unfold bs at hp; rw [if_pos (show h i ≤ f by omega)] at hp; rw [k3]; exact hp)
theorem bs_init (n : Nat) (h ρ : Nat → Nat) : ∀ m i f s r (T T' : Nat → Int32) (x x' : (Nat → Int32) × Int), i + m = n → (∀ k, k < i → T k = T' k) → x.2 = x'.2 → (0 ≤ x.2 → ∀ k, k < n → x.1 k = x'.1 k) →
    ((bs n h ρ m i f s r T x).2 = (bs n h ρ m i f s r T' x').2 ∧ ∀ k, k < n → (bs n h ρ m i f s r T x).1 k = (bs n h ρ m i f s r T' x').1 k) ∧ 0 ≤ (bs n h ρ m i f s r T x).2 := by
  intro m
  induction m with
  | zero =>
    intro i f s r T T' x x' hi hT h2 h1
    unfold bs
    rw [← h2]
    by_cases q : x.2 < r
    · rw [if_pos q, if_pos q]
      refine ⟨⟨rfl, fun k hk => ?_⟩, by show (0 : Int) ≤ r; omega⟩
      show (if k < n then T k else x.1 k) = (if k < n then T' k else x'.1 k)
      rw [if_pos hk, if_pos hk]
      exact hT k (by omega)
    · rw [if_neg q, if_neg q]
      exact ⟨⟨h2, h1 (by omega)⟩, by omega⟩
  | succ m ih =>
    intro i f s r T T' x x' hi hT h2 h1
    have hu : ∀ v, ∀ k, k < i + 1 → upd T i v k = upd T' i v k := by
      intro v k hk
      unfold upd
      by_cases q : k = i
      · rw [if_pos q, if_pos q]
      · rw [if_neg q, if_neg q]
        exact hT k (by omega)
    unfold bs
    have a1 : ∀ y y' : (Nat → Int32) × Int, y = (if h i ≤ f then bs n h ρ m (i + 1) (f - h i) s (r + ρ i) (upd T i (nI 1)) x else x) → y' = (if h i ≤ f then bs n h ρ m (i + 1) (f - h i) s (r + ρ i) (upd T' i (nI 1)) x' else x') → y.2 = y'.2 ∧ (0 ≤ y.2 → ∀ k, k < n → y.1 k = y'.1 k) := by
      intro y y' e e'
      by_cases q : h i ≤ f
      · rw [if_pos q] at e e'
        have := ih (i + 1) (f - h i) s (r + ρ i) (upd T i (nI 1)) (upd T' i (nI 1)) x x' (by omega) (hu _) h2 h1
        rw [← e, ← e'] at this
        exact ⟨this.1.1, fun _ => this.1.2⟩
      · rw [if_neg q] at e e'
        subst e e'
        exact ⟨h2, h1⟩
    generalize hy : (if h i ≤ f then bs n h ρ m (i + 1) (f - h i) s (r + ρ i) (upd T i (nI 1)) x else x) = y
    generalize hy' : (if h i ≤ f then bs n h ρ m (i + 1) (f - h i) s (r + ρ i) (upd T' i (nI 1)) x' else x') = y'
    have b := a1 y y' hy.symm hy'.symm
    have a2 : ∀ z z' : (Nat → Int32) × Int, z = (if h i ≤ s then bs n h ρ m (i + 1) f (s - h i) (r + ρ i) (upd T i (nI 2)) y else y) → z' = (if h i ≤ s then bs n h ρ m (i + 1) f (s - h i) (r + ρ i) (upd T' i (nI 2)) y' else y') → z.2 = z'.2 ∧ (0 ≤ z.2 → ∀ k, k < n → z.1 k = z'.1 k) := by
      intro z z' e e'
      by_cases q : h i ≤ s
      · rw [if_pos q] at e e'
        have := ih (i + 1) f (s - h i) (r + ρ i) (upd T i (nI 2)) (upd T' i (nI 2)) y y' (by omega) (hu _) b.1 b.2
        rw [← e, ← e'] at this
        exact ⟨this.1.1, fun _ => this.1.2⟩
      · rw [if_neg q] at e e'
        subst e e'
        exact b
    have c := a2 _ _ rfl rfl
    exact ih (i + 1) f s r (upd T i (nI 0)) (upd T' i (nI 0)) _ _ (by omega) (hu _) c.1 c.2
theorem fnd_eqL {G' G : GS} (e : eqL G' G) (k : Nat) : (fnd G' k).1 = (fnd G k).1 ∧ eqL (fnd G' k).2 (fnd G k).2 := by
  refine ⟨rfl, fun r hr => ?_⟩
  show u2 G' 41 k (G' 41 k + nI 1) r = u2 G 41 k (G 41 k + nI 1) r
  rw [e 41 (by decide)]
  by_cases q : r = 41
  · subst q
    funext j
    rw [u2_at, u2_at, e 41 (by decide)]
  · rw [u2_row q, u2_row q, e r hr]
theorem bd_post {R : Int32 × GS} {x : Int32} {G' : GS} {t : Sg} {σ : Sg} {post : Option Value → Sg → Prop} (hp : ∀ t, (∃ G', t = wG σ G' ∧ eqL G' R.2) → post (some (.int R.1)) t) (ht : t = wG σ G') (h1 : R.1 = x) (h2 : eqL G' R.2) : post (some (.int x)) t := by
  subst h1
  exact hp t ⟨G', ht, h2⟩
set_option maxRecDepth 100000 in
theorem c_board (hE : eF E = true) (port hrs w : Int32) (hI : Inv G) (hp : ∀ t, (∃ G', t = wG σ G' ∧ eqL G' (s_board G port hrs w).2) → post (some (.int (s_board G port hrs w).1)) t) : MX11_board E 12 0 0 [.ref (eQ E 48), .int port, .int hrs, .int w] (wG σ G) post := by
  refine MA.of RX11 "board" [some (.ref (eQ E 48)), some (.int port), some (.int hrs), some (.int w), none] rfl rfl rfl (catAll rfl) (Nat.le_of_ble_eq_true rfl) rfl (fun X => ?_)
  have h16 := hI.shN.2
  have hap := atPort_le G port (nSh G)
  have L50 : ∀ q, q < 2500 → hrs = nI q → (0 ≤ port.toInt ∧ port.toInt ≤ 4) → q / 100 ≤ 24 → q % 100 ≤ 24 → (w.toInt = -1 ∨ (0 ≤ w.toInt ∧ w.toInt < nSh G)) → V E X RX11 "board" cX11_board 5 (some .int) (12) 0 0 (QM E X post 0 0) (wG σ G) 0 0 50 [some (.ref (eQ E 48)), some (.int port), some (.int (nI q)), some (.int w), none] [] := by
    intro q hq ehr hg1 hg2 hg3 hg4
    have hz : s_board G port hrs w = (if w.toInt = -1 then (Int32.ofInt (brd G port (q / 100) (q % 100)).2, G)
     else if fstOf (fun k => decide (nI ((atPort G port (nSh G)).getD k 0) = w)) (atPort G port (nSh G)).length 0 < (atPort G port (nSh G)).length then
       ((brd G port (q / 100) (q % 100)).1 (fstOf (fun k => decide (nI ((atPort G port (nSh G)).getD k 0) = w)) (atPort G port (nSh G)).length 0), G)
     else fnd G 2) := by
      unfold s_board
      rw [ehr, show tn (nI q) = q from tn_nI (by omega), toI q (by omega), if_pos ⟨hg1, ⟨by omega, by omega, by omega⟩, hg4⟩]
    have L87 : ∀ G2, eqL G2 G → (∀ k, k < (atPort G port (nSh G)).length → G2 43 k = nI ((atPort G port (nSh G)).getD k 0) ∧ G2 46 k = (brd G port (q / 100) (q % 100)).1 k) → G2 42 0 = nI (atPort G port (nSh G)).length → ¬ w.toInt = -1 → ∀ m k, k + m = (atPort G port (nSh G)).length → fstOf (fun k => decide (nI ((atPort G port (nSh G)).getD k 0) = w)) (atPort G port (nSh G)).length 0 = fstOf (fun k => decide (nI ((atPort G port (nSh G)).getD k 0) = w)) m k → V E X RX11 "board" cX11_board 5 (some .int) (12) 0 0 (QM E X post 0 0) (wG σ G2) 0 0 87 [some (.ref (eQ E 48)), some (.int port), some (.int (nI q)), some (.int w), some (.int (nI k))] [] := by
      intro G2 e2 hw h42 hne m
      induction m with
      | zero =>
        intro k hk hv
        refine V.iload (i := 4) dX11_board_87 rfl ?_
        refine V.aload_n (i := 0) dX11_board_89 rfl rfl ?_
        refine V.mgeti hE dX11_board_90 fl_X11_238 rfl ?_
        refine V.icmp_geT (tgt := 121) dX11_board_93 rfl (lpT h42 (by omega) (by omega)) ?_
        refine V.aload_n (i := 0) dX11_board_121 rfl rfl ?_
        refine V.iconst dX11_board_122 ic_2 ?_
        refine V.cq1D hE dX11_board_123 lk_X11_137 rfl (c_finding hE _ (by decide) ⟨rfl, rfl⟩) (by omega) (by decide) (Nat.le_of_ble_eq_true rfl) (Nat.le_of_ble_eq_true rfl) (Nat.le_of_ble_eq_true rfl) ?_
        refine V.iret dX11_board_126 (Nat.le_of_ble_eq_true rfl) (Nat.le_of_ble_eq_true rfl) ?_
        exact bd_post hp rfl ((congrArg Prod.fst (hz.trans ((if_neg hne).trans (if_neg (by rw [hv]; unfold fstOf; omega))))).trans (fnd_eqL e2 2).1.symm) (by rw [hz, if_neg hne, if_neg (by rw [hv]; unfold fstOf; omega)]; exact (fnd_eqL e2 2).2)
      | succ m ih =>
        intro k hk hv
        rw [fstOf_s] at hv
        refine V.iload (i := 4) dX11_board_87 rfl ?_
        refine V.aload_n (i := 0) dX11_board_89 rfl rfl ?_
        refine V.mgeti hE dX11_board_90 fl_X11_238 rfl ?_
        refine V.icmp_geF (tgt := 121) dX11_board_93 rfl (lpF h42 (by omega) (by omega)) ?_
        refine V.aload_n (i := 0) dX11_board_96 rfl rfl ?_
        refine V.mgeta hE dX11_board_97 fl_X11_108 rfl ?_
        refine V.iload (i := 4) dX11_board_100 rfl ?_
        refine V.miald hE dX11_board_102 rfl rfl rfl (show _ < 8 from (by omega)) ?_
        refine V.as _ (hw k (by omega)).1 ?_
        refine V.iload_n (i := 3) dX11_board_103 rfl rfl ?_
        refine V.icmp_ne (tgt := 115) dX11_board_104 rfl (fun c104 => ?_) (fun c104 => ?_)
        · refine V.iinc4 (by decide) dX11_board_115 (inc1 _) ?_
          refine V.goto (tgt := 87) dX11_board_118 rfl ?_
          exact ih (k + 1) (by omega) (hv.trans (if_neg (by simpa using c104)))
        · have hz2 := hz.trans ((if_neg hne).trans (by rw [hv.trans (if_pos (by simpa using c104)), if_pos (by omega)]))
          refine V.aload_n (i := 0) dX11_board_107 rfl rfl ?_
          refine V.mgeta hE dX11_board_108 fl_X11_117 rfl ?_
          refine V.iload (i := 4) dX11_board_111 rfl ?_
          refine V.miald hE dX11_board_113 rfl rfl rfl (show _ < 8 from (by omega)) ?_
          refine V.iret dX11_board_114 (Nat.le_of_ble_eq_true rfl) (Nat.le_of_ble_eq_true rfl) ?_
          exact bd_post hp rfl ((congrArg Prod.fst hz2).trans (hw k (by omega)).2.symm) (by rw [hz2]; exact e2)
    refine V.aload_n (i := 0) dX11_board_50 rfl rfl ?_
    refine V.iload_n (i := 1) dX11_board_51 rfl rfl ?_
    refine V.cq1v hE dX11_board_52 lk_X11_248 rfl (c_gather hE port hI (fun s h => ⟨rfl, h⟩)) (by omega) (by decide) (Nat.le_of_ble_eq_true rfl) (Nat.le_of_ble_eq_true rfl) (Nat.le_of_ble_eq_true rfl) (fun s52 h52 => ?_)
    obtain ⟨G1, rfl, ga⟩ := h52
    refine V.aload_n (i := 0) dX11_board_55 rfl rfl ?_
    refine V.iconst dX11_board_56 ic_m1 ?_
    refine V.mputi hE dX11_board_57 fl_X11_241 rfl rfl rfl ?_
    refine V.aload_n (i := 0) dX11_board_60 rfl rfl ?_
    refine V.iconst dX11_board_61 ic_0 ?_
    refine V.iload_n (i := 2) dX11_board_62 rfl rfl ?_
    refine V.bipush dX11_board_63 bc_100 ?_
    refine V.idiv dX11_board_65 (by decide) ?_
    refine V.as _ (pk_div (by omega) (by decide) (by decide)) ?_
    refine V.iload_n (i := 2) dX11_board_66 rfl rfl ?_
    refine V.bipush dX11_board_67 bc_100 ?_
    refine V.irem dX11_board_69 (by decide) ?_
    refine V.as _ (pk_rem (by omega) (by decide) (by decide)) ?_
    refine V.iconst dX11_board_70 ic_0 ?_
    refine V.cq4v hE dX11_board_71 lk_X11_244 rfl (c_tryFrom hE (atPort G port (nSh G)).length (fun k => hoursN G ((atPort G port (nSh G)).getD k 0)) (fun k => riskN G ((atPort G port (nSh G)).getD k 0)) (fun k => (atPort G port (nSh G)).getD k 0) hap.1 (fun k => riskN_le) (fun k => hoursN_le G _) (fun k hk => Nat.lt_of_lt_of_le (hap.2 k hk) h16) (atPort G port (nSh G)).length 0 (q / 100) (q % 100) 0 (fun _ => 0) _ _ (by omega) hg2 hg3 (by omega) ga.2.1 (fun k hk => ⟨(ga.2.2 k hk).1, by show hours (G1 2 _) = _; rw [ga.1 2 (by decide)]; exact (hoursN_ok (hI.kind _ (hap.2 k hk))).1, (ga.2.2 k hk).2⟩) (fun k hk => by omega) (fun s h => ⟨rfl, h⟩)) (by omega) (by decide) (Nat.le_of_ble_eq_true rfl) (Nat.le_of_ble_eq_true rfl) (Nat.le_of_ble_eq_true rfl) (fun s71 h71 => ?_)
    obtain ⟨G2, rfl, k1, k2, k3⟩ := h71
    have hin := bs_init (atPort G port (nSh G)).length (fun k => hoursN G ((atPort G port (nSh G)).getD k 0)) (fun k => riskN G ((atPort G port (nSh G)).getD k 0)) (atPort G port (nSh G)).length 0 (q / 100) (q % 100) 0 (fun _ => 0) (fun _ => 0) (G1 46, -1) (fun _ => 0, -1) (by omega) (fun k hk => by omega) rfl (fun z => absurd z (show ¬ (0 : Int) ≤ -1 by decide))
    have e46 : ∀ k, k < (atPort G port (nSh G)).length → G2 46 k = (brd G port (q / 100) (q % 100)).1 k := fun k hk => (congrFun (congrArg Prod.fst k3) k).trans (hin.1.2 k hk)
    have e47 : (G2 47 0).toInt = (brd G port (q / 100) (q % 100)).2 := (congrArg Prod.snd k3).trans hin.1.1
    have e2 : eqL G2 G := fun r hr => (k1 r (by omega)).trans ((u2_row (by omega)).trans (ga.1 r hr))
    refine V.iload_n (i := 3) dX11_board_74 rfl rfl ?_
    refine V.iconst dX11_board_75 ic_m1 ?_
    refine V.icmp_ne (tgt := 84) dX11_board_76 rfl (fun c76 => ?_) (fun c76 => ?_)
    · rw [fa_eq, show (-1 : Int32).toInt = -1 from rfl] at c76
      refine V.iconst dX11_board_84 ic_0 ?_
      refine V.istore4 (by decide) dX11_board_85 ?_
      exact L87 G2 e2 (fun k hk => ⟨(congrFun ((k1 43 (by decide)).trans (u2_row (by decide))) k).trans (ga.2.2 k hk).1, e46 k hk⟩) ((congrFun ((k1 42 (by decide)).trans (u2_row (by decide))) 0).trans ga.2.1) c76 _ 0 (by omega) rfl
    · rw [fa_eq, show (-1 : Int32).toInt = -1 from rfl] at c76
      refine V.aload_n (i := 0) dX11_board_79 rfl rfl ?_
      refine V.mgeti hE dX11_board_80 fl_X11_241 rfl ?_
      refine V.iret dX11_board_83 (Nat.le_of_ble_eq_true rfl) (Nat.le_of_ble_eq_true rfl) ?_
      exact bd_post hp rfl ((congrArg Prod.fst (hz.trans (if_pos c76))).trans (by show Int32.ofInt _ = _; rw [← e47, fb_asI])) (by rw [hz, if_pos c76]; exact e2)
  refine V.iload_n (i := 1) dX11_board_0 rfl rfl ?_
  refine V.iconst dX11_board_1 ic_0 ?_
  refine V.iconst dX11_board_2 ic_4 ?_
  refine V.cs3D dX11_board_3 lk_X11_124 (c_isInN _ 0 4 (by decide) (by decide) ⟨rfl, rfl⟩) (by omega) (by decide) (Nat.le_of_ble_eq_true rfl) (Nat.le_of_ble_eq_true rfl) (Nat.le_of_ble_eq_true rfl) ?_
  refine V.ifb_eq (tgt := 44) dX11_board_6 rfl (fun c6 => ?_) (fun c6 => ?_)
  · refine V.aload_n (i := 0) dX11_board_44 rfl rfl ?_
    refine V.iconst dX11_board_45 ic_1 ?_
    refine V.cq1D hE dX11_board_46 lk_X11_137 rfl (c_finding hE _ (by decide) ⟨rfl, rfl⟩) (by omega) (by decide) (Nat.le_of_ble_eq_true rfl) (Nat.le_of_ble_eq_true rfl) (Nat.le_of_ble_eq_true rfl) ?_
    refine V.iret dX11_board_49 (Nat.le_of_ble_eq_true rfl) (Nat.le_of_ble_eq_true rfl) ?_
    exact bd_post hp rfl ((congrArg Prod.fst (if_neg (by omega))).trans rfl) (by rw [show (s_board G port _ w) = fnd G 1 from if_neg (by omega)]; exact fun _ _ => rfl)
  · refine V.iload_n (i := 2) dX11_board_9 rfl rfl ?_
    refine V.if_lt (tgt := 44) dX11_board_10 rfl (fun c10 => ?_) (fun c10 => ?_)
    · rw [lt0] at c10
      refine V.aload_n (i := 0) dX11_board_44 rfl rfl ?_
      refine V.iconst dX11_board_45 ic_1 ?_
      refine V.cq1D hE dX11_board_46 lk_X11_137 rfl (c_finding hE _ (by decide) ⟨rfl, rfl⟩) (by omega) (by decide) (Nat.le_of_ble_eq_true rfl) (Nat.le_of_ble_eq_true rfl) (Nat.le_of_ble_eq_true rfl) ?_
      refine V.iret dX11_board_49 (Nat.le_of_ble_eq_true rfl) (Nat.le_of_ble_eq_true rfl) ?_
      exact bd_post hp rfl ((congrArg Prod.fst (if_neg (by omega))).trans rfl) (by rw [show (s_board G port _ w) = fnd G 1 from if_neg (by omega)]; exact fun _ _ => rfl)
    · obtain ⟨q, hq, rfl⟩ := nI_of c10
      have hqi := toI q hq
      refine V.iload_n (i := 2) dX11_board_13 rfl rfl ?_
      refine V.bipush dX11_board_14 bc_100 ?_
      refine V.idiv dX11_board_16 (by decide) ?_
      refine V.as _ (pk_div hq (by decide) (by decide)) ?_
      refine V.bipush dX11_board_17 bc_24 ?_
      refine V.icmp_gt (tgt := 44) dX11_board_19 rfl (fun c19 => ?_) (fun c19 => ?_)
      · rw [nI_ltI (by decide) (by omega)] at c19
        refine V.aload_n (i := 0) dX11_board_44 rfl rfl ?_
        refine V.iconst dX11_board_45 ic_1 ?_
        refine V.cq1D hE dX11_board_46 lk_X11_137 rfl (c_finding hE _ (by decide) ⟨rfl, rfl⟩) (by omega) (by decide) (Nat.le_of_ble_eq_true rfl) (Nat.le_of_ble_eq_true rfl) (Nat.le_of_ble_eq_true rfl) ?_
        refine V.iret dX11_board_49 (Nat.le_of_ble_eq_true rfl) (Nat.le_of_ble_eq_true rfl) ?_
        exact bd_post hp rfl ((congrArg Prod.fst (if_neg (by omega))).trans rfl) (by rw [show (s_board G port _ w) = fnd G 1 from if_neg (by omega)]; exact fun _ _ => rfl)
      · rw [nI_ltI (by decide) (by omega)] at c19
        refine V.iload_n (i := 2) dX11_board_22 rfl rfl ?_
        refine V.bipush dX11_board_23 bc_100 ?_
        refine V.irem dX11_board_25 (by decide) ?_
        refine V.as _ (pk_rem hq (by decide) (by decide)) ?_
        refine V.bipush dX11_board_26 bc_24 ?_
        refine V.icmp_gt (tgt := 44) dX11_board_28 rfl (fun c28 => ?_) (fun c28 => ?_)
        · rw [nI_ltI (by decide) (by omega)] at c28
          refine V.aload_n (i := 0) dX11_board_44 rfl rfl ?_
          refine V.iconst dX11_board_45 ic_1 ?_
          refine V.cq1D hE dX11_board_46 lk_X11_137 rfl (c_finding hE _ (by decide) ⟨rfl, rfl⟩) (by omega) (by decide) (Nat.le_of_ble_eq_true rfl) (Nat.le_of_ble_eq_true rfl) (Nat.le_of_ble_eq_true rfl) ?_
          refine V.iret dX11_board_49 (Nat.le_of_ble_eq_true rfl) (Nat.le_of_ble_eq_true rfl) ?_
          exact bd_post hp rfl ((congrArg Prod.fst (if_neg (by omega))).trans rfl) (by rw [show (s_board G port _ w) = fnd G 1 from if_neg (by omega)]; exact fun _ _ => rfl)
        · rw [nI_ltI (by decide) (by omega)] at c28
          refine V.iload_n (i := 3) dX11_board_31 rfl rfl ?_
          refine V.iconst dX11_board_32 ic_m1 ?_
          refine V.icmp_eq (tgt := 50) dX11_board_33 rfl (fun c33 => ?_) (fun c33 => ?_)
          · rw [fa_eq, show (-1 : Int32).toInt = -1 from rfl] at c33
            exact L50 q (by omega) rfl (by omega) (by omega) (by omega) (by omega)
          · rw [fa_eq, show (-1 : Int32).toInt = -1 from rfl] at c33
            refine V.aload_n (i := 0) dX11_board_36 rfl rfl ?_
            refine V.iload_n (i := 3) dX11_board_37 rfl rfl ?_
            refine V.cq1D hE dX11_board_38 lk_X11_141 rfl (c_isShip hE _ hI ⟨rfl, rfl⟩) (by omega) (by decide) (Nat.le_of_ble_eq_true rfl) (Nat.le_of_ble_eq_true rfl) (Nat.le_of_ble_eq_true rfl) ?_
            refine V.ifb_ne (tgt := 50) dX11_board_41 rfl (fun c41 => ?_) (fun c41 => ?_)
            · exact L50 q (by omega) rfl (by omega) (by omega) (by omega) (by omega)
            · refine V.aload_n (i := 0) dX11_board_44 rfl rfl ?_
              refine V.iconst dX11_board_45 ic_1 ?_
              refine V.cq1D hE dX11_board_46 lk_X11_137 rfl (c_finding hE _ (by decide) ⟨rfl, rfl⟩) (by omega) (by decide) (Nat.le_of_ble_eq_true rfl) (Nat.le_of_ble_eq_true rfl) (Nat.le_of_ble_eq_true rfl) ?_
              refine V.iret dX11_board_49 (Nat.le_of_ble_eq_true rfl) (Nat.le_of_ble_eq_true rfl) ?_
              exact bd_post hp rfl ((congrArg Prod.fst (if_neg (by omega))).trans rfl) (by rw [show (s_board G port _ w) = fnd G 1 from if_neg (by omega)]; exact fun _ _ => rfl)
end REF13

