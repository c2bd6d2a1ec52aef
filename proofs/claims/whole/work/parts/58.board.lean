/-! ===== the class: boarding ===== -/
def lfS (ρ : Nat → Nat) : Nat → Nat → Nat
  | 0, _ => 0
  | m + 1, i => ρ i + lfS ρ m (i + 1)
theorem lfS_le {ρ : Nat → Nat} (h : ∀ k, ρ k ≤ 1000) : ∀ m i, lfS ρ m i ≤ 1000 * m
  | 0, i => Nat.le_refl _
  | m + 1, i => by
    have h1 := lfS_le h m (i + 1)
    have h2 := h i
    unfold lfS
    omega
theorem bs_cut (n : Nat) (h ρ : Nat → Nat) : ∀ m i f s r (T : Nat → Int32) (x : (Nat → Int32) × Int), ((r + lfS ρ m i : Nat) : Int) ≤ x.2 → bs n h ρ m i f s r T x = x
  | 0, i, f, s, r, T, x, hx => by
    unfold lfS at hx
    unfold bs
    rw [if_neg (by omega)]
  | m + 1, i, f, s, r, T, x, hx => by
    unfold lfS at hx
    have c1 := bs_cut n h ρ m (i + 1) (f - h i) s (r + ρ i) (upd T i (nI 1)) x (by omega)
    have c2 := bs_cut n h ρ m (i + 1) f (s - h i) (r + ρ i) (upd T i (nI 2)) x (by omega)
    have c3 := bs_cut n h ρ m (i + 1) f s r (upd T i (nI 0)) x (by omega)
    unfold bs
    rw [c1]
    simp only [ite_self]
    rw [c2]
    simp only [ite_self]
    exact c3
section BOARD
variable {E : VE} {σ : Sg} {G : GS} {x : Nat} {P : PT} {post : Option Value → Sg → Prop}
def BO (s : Sg) (P : PT) (n : Nat) (who h ρ : Nat → Nat) : Prop := sI s 1 (P 0 11) 5 = nI n ∧ ∀ k, k < n → sI s 27 (P 0 12) k = nI (who k) ∧ sI s 28 (P 0 13) k = nI (h k) ∧ sI s 29 (P 0 14) k = nI (ρ k)
def atI (t k : Nat) : Bool := decide (t ≠ 30 ∧ t ≠ 31 ∧ ¬ (t = 1 ∧ k = 6))
def AT (σ : Sg) (P : PT) (i : Nat) (res : (Nat → Int32) × Int) (t : Sg) : Prop := frk atI (fun _ _ => true) σ t ∧ sG t = sG σ ∧ (∀ k, k < i → sI t 30 (P 0 15) k = sI σ 30 (P 0 15) k) ∧ (sI t 31 (P 0 16), (sI t 1 (P 0 11) 6).toInt) = res
theorem FX.at {t : Sg} (hF : FX σ x P) (f : frk atI (fun _ _ => true) σ t) : FX t x P := hF.k f (fun _ => rfl) rfl rfl (fun _ => rfl)
theorem BO.at {t : Sg} {n : Nat} {who h ρ : Nat → Nat} (hB : BO σ P n who h ρ) (hF : FX σ x P) (f : frk atI (fun _ _ => true) σ t) : BO t P n who h ρ :=
  ⟨(f.num 5 hF.brd.2 (by decide) rfl).trans hB.1, fun k hk => ⟨(f.num k hF.b0.2 (by decide) rfl).trans (hB.2 k hk).1, (f.num k hF.b1.2 (by decide) rfl).trans (hB.2 k hk).2.1, (f.num k hF.b2.2 (by decide) rfl).trans (hB.2 k hk).2.2⟩⟩
theorem tr_f (v : Int32) (a i : Nat) : frk atI (fun _ _ => true) σ (wI σ 30 a i v) := frk.wI (by unfold atI; simp)
theorem tr_pre {T : Nat → Int32} {i : Nat} {v : Int32} (h : ∀ k, k < i → sI σ 30 (P 0 15) k = T k) : ∀ k, k < i + 1 → sI (wI σ 30 (P 0 15) i v) 30 (P 0 15) k = upd T i v k := by
  intro k hk
  rw [sI_wI]
  unfold upd
  by_cases q : k = i
  · rw [if_pos ⟨rfl, rfl, q⟩, if_pos q]
  · rw [if_neg (fun z => q z.2.2), if_neg q]
    exact h k (by omega)
theorem tr_res (σ : Sg) (P : PT) (i : Nat) (v : Int32) : (sI (wI σ 30 (P 0 15) i v) 31 (P 0 16), (sI (wI σ 30 (P 0 15) i v) 1 (P 0 11) 6).toInt) = (sI σ 31 (P 0 16), (sI σ 1 (P 0 11) 6).toInt) := by
  refine Prod.ext ?_ ?_
  · funext k
    show sI (wI σ 30 (P 0 15) i v) 31 (P 0 16) k = _
    rw [sI_wI, if_neg (by simp)]
  · show (sI (wI σ 30 (P 0 15) i v) 1 (P 0 11) 6).toInt = _
    rw [sI_wI, if_neg (by simp)]
set_option maxRecDepth 100000 in
set_option maxHeartbeats 4000000 in
theorem k_attempt (n : Nat) (h ρ who : Nat → Nat) (hn8 : n ≤ 8) (hρ : ∀ k, ρ k ≤ 1000) (hh : ∀ k, h k ≤ 7) : ∀ (m i f s r : Nat) (T : Nat → Int32) (σ : Sg) (post : Option Value → Sg → Prop), i + m = n → f ≤ 24 → s ≤ 24 → r ≤ 1000 * i → FX σ x P → BO σ P n who h ρ → (∀ k, k < i → sI σ 30 (P 0 15) k = T k) → (∀ t, AT σ P i (bs n h ρ m i f s r T (sI σ 31 (P 0 16), (sI σ 1 (P 0 11) 6).toInt)) t → post none t) → MX0_attempt E (m + 1) 0 0 [.ref (P 0 11), .int (nI i), .int (nI f), .int (nI s), .int (nI r), .int (nI (lfS ρ m i))] σ post := by
  intro m
  induction m with
  | zero =>
    intro i f s r T σ post hin hf hs hr hF hB hT hp
    refine MA.of RX0 "attempt" [some (.ref (P 0 11)), some (.int (nI i)), some (.int (nI f)), some (.int (nI s)), some (.int (nI r)), some (.int (nI (lfS ρ 0 i))), none, none] rfl rfl rfl (catAll rfl) (Nat.le_of_ble_eq_true rfl) rfl (fun X => ?_)
    have hin : i = n := by omega
    subst hin
    refine V.iload (i := 4) dX0_attempt_0 rfl ?_
    refine V.iload (i := 5) dX0_attempt_2 rfl ?_
    refine V.iadd dX0_attempt_4 ?_
    refine V.as _ (nI_add r (lfS ρ 0 i)) ?_
    refine V.aload_n (i := 0) dX0_attempt_5 rfl rfl ?_
    refine V.geti dX0_attempt_6 fl_X0_31 rfl hF.brd.2 ?_
    refine V.as (sI σ 1 (P 0 11) 6) rfl ?_
    refine V.icmp_gt (tgt := 13) dX0_attempt_9 rfl (fun c9 => ?_) (fun c9 => ?_)
    · rw [fa_lt, toI (r + lfS ρ 0 i) (by unfold lfS; omega)] at c9
      refine V.iload_n (i := 1) dX0_attempt_13 rfl rfl ?_
      refine V.aload_n (i := 0) dX0_attempt_14 rfl rfl ?_
      refine V.geti dX0_attempt_15 fl_X0_27 rfl hF.brd.2 ?_
      refine V.icmp_ltF (tgt := 45) dX0_attempt_18 rfl (by rw [hB.1, fa_lt]; omega) ?_
      refine V.aload_n (i := 0) dX0_attempt_21 rfl rfl ?_
      refine V.iload (i := 4) dX0_attempt_22 rfl ?_
      refine V.puti dX0_attempt_24 fl_X0_31 rfl rfl hF.brd.2 ?_
      refine V.sts (σ' := wI σ 1 (P 0 11) 6 (nI r)) rfl ?_
      refine V.aload_n (i := 0) dX0_attempt_27 rfl rfl ?_
      refine V.getS dX0_attempt_28 fl_X0_21 rfl hF.brd.2 hF.b3.1 ?_
      refine V.iconst dX0_attempt_31 ic_0 ?_
      refine V.aload_n (i := 0) dX0_attempt_32 rfl rfl ?_
      refine V.getS dX0_attempt_33 fl_X0_24 rfl hF.brd.2 hF.b4.1 ?_
      refine V.iconst dX0_attempt_36 ic_0 ?_
      refine V.aload_n (i := 0) dX0_attempt_37 rfl rfl ?_
      refine V.geti dX0_attempt_38 fl_X0_27 rfl hF.brd.2 ?_
      refine V.as (nI i) (by rw [sI_wI, if_neg (by simp)]; exact hB.1) ?_
      refine V.acopy 30 31 dX0_attempt_41 wm_X0_38 hF.b3.2 hF.b4.2 (by decide) (by decide) rfl rfl hn8 hn8 (by omega) (Nat.le_of_ble_eq_true rfl) (by omega) ?_
      refine V.vret dX0_attempt_44 (Nat.le_of_ble_eq_true rfl) (Nat.le_of_ble_eq_true rfl) ?_
      refine hp _ ⟨(frk.wI (by decide)).trans (frk.wA (fun k => by unfold atI; simp)), rfl, fun k hk => (by rw [sI_wA, if_neg (by simp), sI_wI, if_neg (by simp)]), ?_⟩
      unfold bs
      have hlt : (sI σ 1 (P 0 11) 6).toInt < (r : Int) := by unfold lfS at c9; omega
      rw [if_pos hlt]
      refine Prod.ext ?_ ?_
      · funext k
        show sI (wA (wI σ 1 (P 0 11) 6 (nI r)) 31 (P 0 16) (fun k => if k < i then sI (wI σ 1 (P 0 11) 6 (nI r)) 30 (P 0 15) k else sI (wI σ 1 (P 0 11) 6 (nI r)) 31 (P 0 16) k)) 31 (P 0 16) k = if k < i then T k else sI σ 31 (P 0 16) k
        rw [sI_wA, if_pos ⟨rfl, rfl⟩]
        by_cases q : k < i
        · rw [if_pos q, if_pos q, sI_wI, if_neg (by simp)]; exact hT k q
        · rw [if_neg q, if_neg q, sI_wI, if_neg (by simp)]
      · show (sI (wA (wI σ 1 (P 0 11) 6 (nI r)) 31 (P 0 16) (fun k => if k < i then sI (wI σ 1 (P 0 11) 6 (nI r)) 30 (P 0 15) k else sI (wI σ 1 (P 0 11) 6 (nI r)) 31 (P 0 16) k)) 1 (P 0 11) 6).toInt = (r : Int)
        rw [sI_wA, if_neg (by simp), sI_wI, if_pos ⟨rfl, rfl, rfl⟩, toI _ (by omega)]
    · rw [fa_lt, toI (r + lfS ρ 0 i) (by unfold lfS; omega)] at c9
      refine V.vret dX0_attempt_12 (Nat.le_of_ble_eq_true rfl) (Nat.le_of_ble_eq_true rfl) ?_
      refine hp _ ⟨frk.rfl', rfl, fun _ _ => rfl, ?_⟩
      rw [bs_cut _ _ _ _ _ _ _ _ _ _ (by show _ ≤ (sI σ 1 (P 0 11) 6).toInt; omega)]
  | succ m ih =>
    intro i f s r T σ post hin hf hs hr hF hB hT hp
    refine MA.of RX0 "attempt" [some (.ref (P 0 11)), some (.int (nI i)), some (.int (nI f)), some (.int (nI s)), some (.int (nI r)), some (.int (nI (lfS ρ (m + 1) i))), none, none] rfl rfl rfl (catAll rfl) (Nat.le_of_ble_eq_true rfl) rfl (fun X => ?_)
    have hhi := hh i
    have hρi := hρ i
    have hlf := lfS_le hρ m (i + 1)
    have hl1 : lfS ρ (m + 1) i = ρ i + lfS ρ m (i + 1) := rfl
    have hBi := hB.2 i (by omega)
    -- the last part: the ship goes to none
    have L131 : ∀ t, frk atI (fun _ _ => true) σ t → sG t = sG σ → (∀ k, k < i → sI t 30 (P 0 15) k = T k) → (∀ u, AT σ P i (bs n h ρ m (i + 1) f s r (upd T i (nI 0)) (sI t 31 (P 0 16), (sI t 1 (P 0 11) 6).toInt)) u → post none u) → V E X RX0 "attempt" cX0_attempt 8 none (m + 1 + 1) 0 0 (QM E X post 0 0) t 0 0 131 [some (.ref (P 0 11)), some (.int (nI i)), some (.int (nI f)), some (.int (nI s)), some (.int (nI r)), some (.int (nI (lfS ρ (m + 1) i))), some (.int (nI (h i))), some (.int (nI (ρ i)))] [] := by
      intro t ft gt e2 hp
      have hF2 := hF.at ft
      refine V.aload_n (i := 0) dX0_attempt_131 rfl rfl ?_
      refine V.getS dX0_attempt_132 fl_X0_21 rfl hF2.brd.2 hF2.b3.1 ?_
      refine V.iload_n (i := 1) dX0_attempt_135 rfl rfl ?_
      refine V.iconst dX0_attempt_136 ic_0 ?_
      refine V.iast (t := 30) dX0_attempt_137 hF2.b3.2 (by decide) rfl rfl (show _ < 8 from (by omega)) (by decide) ?_
      refine V.aload_n (i := 0) dX0_attempt_138 rfl rfl ?_
      refine V.iload_n (i := 1) dX0_attempt_139 rfl rfl ?_
      refine V.iconst dX0_attempt_140 ic_1 ?_
      refine V.iadd dX0_attempt_141 ?_
      refine V.as _ (nI_add i 1) ?_
      refine V.iload_n (i := 2) dX0_attempt_142 rfl rfl ?_
      refine V.iload_n (i := 3) dX0_attempt_143 rfl rfl ?_
      refine V.iload (i := 4) dX0_attempt_144 rfl ?_
      refine V.iload (i := 5) dX0_attempt_146 rfl ?_
      refine V.iload (i := 7) dX0_attempt_148 rfl ?_
      refine V.isub dX0_attempt_150 ?_
      refine V.as (nI (lfS ρ m (i + 1))) (by rw [pk_sub (by omega)]; congr 1; omega) ?_
      refine V.cv5v (ci := 0) dX0_attempt_151 lk_X0_34 (by decide) rfl hF2.brd.2 (ih (i + 1) f s r (upd T i (nI 0)) (wI t 30 (P 0 15) i (nI 0)) _ (by omega) hf hs (by omega) (hF2.at (tr_f _ _ _)) ((hB.at hF ft).at hF2 (tr_f _ _ _)) (tr_pre e2) (fun s h => ⟨rfl, h⟩)) (by omega) (by decide) (Nat.le_of_ble_eq_true rfl) (Nat.le_of_ble_eq_true rfl) (Nat.le_of_ble_eq_true rfl) (fun s151 h151 => ?_)
      refine V.vret dX0_attempt_154 (Nat.le_of_ble_eq_true rfl) (Nat.le_of_ble_eq_true rfl) ?_
      rw [tr_res] at h151
      obtain ⟨k1, k2, k3, k4⟩ := h151
      refine hp _ ⟨(ft.trans (tr_f _ _ _)).trans k1, k2.trans gt, fun k hk => ?_, k4⟩
      rw [k3 k (by omega), sI_wI, if_neg (fun z => by have := z.2.2; omega), e2 k hk, hT k hk]
    have L96 : ∀ t, frk atI (fun _ _ => true) σ t → sG t = sG σ → (∀ k, k < i → sI t 30 (P 0 15) k = T k) → (∀ u, AT σ P i (bs n h ρ m (i + 1) f s r (upd T i (nI 0)) (if h i ≤ s then bs n h ρ m (i + 1) f (s - h i) (r + ρ i) (upd T i (nI 2)) (sI t 31 (P 0 16), (sI t 1 (P 0 11) 6).toInt) else (sI t 31 (P 0 16), (sI t 1 (P 0 11) 6).toInt))) u → post none u) → V E X RX0 "attempt" cX0_attempt 8 none (m + 1 + 1) 0 0 (QM E X post 0 0) t 0 0 96 [some (.ref (P 0 11)), some (.int (nI i)), some (.int (nI f)), some (.int (nI s)), some (.int (nI r)), some (.int (nI (lfS ρ (m + 1) i))), some (.int (nI (h i))), some (.int (nI (ρ i)))] [] := by
      intro t ft gt e2 hp
      have hF2 := hF.at ft
      refine V.iload (i := 6) dX0_attempt_96 rfl ?_
      refine V.iload_n (i := 3) dX0_attempt_98 rfl rfl ?_
      refine V.icmp_gt (tgt := 131) dX0_attempt_99 rfl (fun c99 => ?_) (fun c99 => ?_)
      · rw [nI_ltI (by omega) (by omega)] at c99
        rw [if_neg (by omega)] at hp
        first | exact L131 t ft gt e2 hp | exact L131 s128 ((ft.trans (tr_f _ _ _)).trans k1) (k2.trans gt) (fun k hk => by rw [k3 k (by omega), sI_wI, if_neg (fun z => by have := z.2.2; omega), e2 k hk]) (by rw [k4]; exact hp)
      · rw [nI_ltI (by omega) (by omega)] at c99
        rw [if_pos (by omega)] at hp
        refine V.aload_n (i := 0) dX0_attempt_102 rfl rfl ?_
        refine V.getS dX0_attempt_103 fl_X0_21 rfl hF2.brd.2 hF2.b3.1 ?_
        refine V.iload_n (i := 1) dX0_attempt_106 rfl rfl ?_
        refine V.iconst dX0_attempt_107 ic_2 ?_
        refine V.iast (t := 30) dX0_attempt_108 hF2.b3.2 (by decide) rfl rfl (show _ < 8 from (by omega)) (by decide) ?_
        refine V.aload_n (i := 0) dX0_attempt_109 rfl rfl ?_
        refine V.iload_n (i := 1) dX0_attempt_110 rfl rfl ?_
        refine V.iconst dX0_attempt_111 ic_1 ?_
        refine V.iadd dX0_attempt_112 ?_
        refine V.as _ (nI_add i 1) ?_
        refine V.iload_n (i := 2) dX0_attempt_113 rfl rfl ?_
        refine V.iload_n (i := 3) dX0_attempt_114 rfl rfl ?_
        refine V.iload (i := 6) dX0_attempt_115 rfl ?_
        refine V.isub dX0_attempt_117 ?_
        refine V.as _ (pk_sub (by omega)) ?_
        refine V.iload (i := 4) dX0_attempt_118 rfl ?_
        refine V.iload (i := 7) dX0_attempt_120 rfl ?_
        refine V.iadd dX0_attempt_122 ?_
        refine V.as _ (nI_add r (ρ i)) ?_
        refine V.iload (i := 5) dX0_attempt_123 rfl ?_
        refine V.iload (i := 7) dX0_attempt_125 rfl ?_
        refine V.isub dX0_attempt_127 ?_
        refine V.as (nI (lfS ρ m (i + 1))) (by rw [pk_sub (by omega)]; congr 1; omega) ?_
        refine V.cv5v (ci := 0) dX0_attempt_128 lk_X0_34 (by decide) rfl hF2.brd.2 (ih (i + 1) f (s - h i) (r + ρ i) (upd T i (nI 2)) (wI t 30 (P 0 15) i (nI 2)) _ (by omega) hf (by omega) (by omega) (hF2.at (tr_f _ _ _)) ((hB.at hF ft).at hF2 (tr_f _ _ _)) (tr_pre e2) (fun s h => ⟨rfl, h⟩)) (by omega) (by decide) (Nat.le_of_ble_eq_true rfl) (Nat.le_of_ble_eq_true rfl) (Nat.le_of_ble_eq_true rfl) (fun s128 h128 => ?_)
        rw [tr_res] at h128
        obtain ⟨k1, k2, k3, k4⟩ := h128
        first | exact L131 t ft gt e2 hp | exact L131 s128 ((ft.trans (tr_f _ _ _)).trans k1) (k2.trans gt) (fun k hk => by rw [k3 k (by omega), sI_wI, if_neg (fun z => by have := z.2.2; omega), e2 k hk]) (by rw [k4]; exact hp)
    refine V.iload (i := 4) dX0_attempt_0 rfl ?_
    refine V.iload (i := 5) dX0_attempt_2 rfl ?_
    refine V.iadd dX0_attempt_4 ?_
    refine V.as _ (nI_add r (lfS ρ (m + 1) i)) ?_
    refine V.aload_n (i := 0) dX0_attempt_5 rfl rfl ?_
    refine V.geti dX0_attempt_6 fl_X0_31 rfl hF.brd.2 ?_
    refine V.as (sI σ 1 (P 0 11) 6) rfl ?_
    refine V.icmp_gt (tgt := 13) dX0_attempt_9 rfl (fun c9 => ?_) (fun c9 => ?_)
    · rw [fa_lt, toI (r + lfS ρ (m + 1) i) (by omega)] at c9
      refine V.iload_n (i := 1) dX0_attempt_13 rfl rfl ?_
      refine V.aload_n (i := 0) dX0_attempt_14 rfl rfl ?_
      refine V.geti dX0_attempt_15 fl_X0_27 rfl hF.brd.2 ?_
      refine V.icmp_ltT (tgt := 45) dX0_attempt_18 rfl (by rw [hB.1]; exact (nI_ltI (by omega) (by omega)).mpr (by omega)) ?_
      refine V.aload_n (i := 0) dX0_attempt_45 rfl rfl ?_
      refine V.getS dX0_attempt_46 fl_X0_15 rfl hF.brd.2 hF.b1.1 ?_
      refine V.iload_n (i := 1) dX0_attempt_49 rfl rfl ?_
      refine V.iald (t := 28) dX0_attempt_50 hF.b1.2 (by decide) rfl rfl (show _ < 8 from (by omega)) (by decide) ?_
      refine V.as _ hBi.2.1 ?_
      refine V.istore6 (by decide) dX0_attempt_51 ?_
      refine V.aload_n (i := 0) dX0_attempt_53 rfl rfl ?_
      refine V.getS dX0_attempt_54 fl_X0_18 rfl hF.brd.2 hF.b2.1 ?_
      refine V.iload_n (i := 1) dX0_attempt_57 rfl rfl ?_
      refine V.iald (t := 29) dX0_attempt_58 hF.b2.2 (by decide) rfl rfl (show _ < 8 from (by omega)) (by decide) ?_
      refine V.as _ hBi.2.2 ?_
      refine V.istore7 (by decide) dX0_attempt_59 ?_
      refine V.iload (i := 6) dX0_attempt_61 rfl ?_
      refine V.iload_n (i := 2) dX0_attempt_63 rfl rfl ?_
      refine V.icmp_gt (tgt := 96) dX0_attempt_64 rfl (fun c64 => ?_) (fun c64 => ?_)
      · rw [nI_ltI (by omega) (by omega)] at c64
        have hp : ∀ t, AT σ P i (bs n h ρ m (i + 1) f s r (upd T i (nI 0)) (if h i ≤ s then bs n h ρ m (i + 1) f (s - h i) (r + ρ i) (upd T i (nI 2)) (sI σ 31 (P 0 16), (sI σ 1 (P 0 11) 6).toInt) else (sI σ 31 (P 0 16), (sI σ 1 (P 0 11) 6).toInt))) t → post none t := by unfold bs at hp; rw [if_neg (show ¬ h i ≤ f by omega)] at hp; exact hp
        first | exact L96 σ frk.rfl' rfl hT hp | exact L96 s93 ((tr_f _ _ _).trans k1) k2 (fun k hk => by rw [k3 k (by omega), sI_wI, if_neg (fun z => by have := z.2.2; omega), hT k hk]) (by unfold bs at hp; rw [if_pos (show h i ≤ f by omega)] at hp; rw [k4]; exact hp)
      · rw [nI_ltI (by omega) (by omega)] at c64
        refine V.aload_n (i := 0) dX0_attempt_67 rfl rfl ?_
        refine V.getS dX0_attempt_68 fl_X0_21 rfl hF.brd.2 hF.b3.1 ?_
        refine V.iload_n (i := 1) dX0_attempt_71 rfl rfl ?_
        refine V.iconst dX0_attempt_72 ic_1 ?_
        refine V.iast (t := 30) dX0_attempt_73 hF.b3.2 (by decide) rfl rfl (show _ < 8 from (by omega)) (by decide) ?_
        refine V.aload_n (i := 0) dX0_attempt_74 rfl rfl ?_
        refine V.iload_n (i := 1) dX0_attempt_75 rfl rfl ?_
        refine V.iconst dX0_attempt_76 ic_1 ?_
        refine V.iadd dX0_attempt_77 ?_
        refine V.as _ (nI_add i 1) ?_
        refine V.iload_n (i := 2) dX0_attempt_78 rfl rfl ?_
        refine V.iload (i := 6) dX0_attempt_79 rfl ?_
        refine V.isub dX0_attempt_81 ?_
        refine V.as _ (pk_sub (by omega)) ?_
        refine V.iload_n (i := 3) dX0_attempt_82 rfl rfl ?_
        refine V.iload (i := 4) dX0_attempt_83 rfl ?_
        refine V.iload (i := 7) dX0_attempt_85 rfl ?_
        refine V.iadd dX0_attempt_87 ?_
        refine V.as _ (nI_add r (ρ i)) ?_
        refine V.iload (i := 5) dX0_attempt_88 rfl ?_
        refine V.iload (i := 7) dX0_attempt_90 rfl ?_
        refine V.isub dX0_attempt_92 ?_
        refine V.as (nI (lfS ρ m (i + 1))) (by rw [pk_sub (by omega)]; congr 1; omega) ?_
        refine V.cv5v (ci := 0) dX0_attempt_93 lk_X0_34 (by decide) rfl hF.brd.2 (ih (i + 1) (f - h i) s (r + ρ i) (upd T i (nI 1)) (wI σ 30 (P 0 15) i (nI 1)) _ (by omega) (by omega) hs (by omega) (hF.at (tr_f _ _ _)) (hB.at hF (tr_f _ _ _)) (tr_pre hT) (fun s h => ⟨rfl, h⟩)) (by omega) (by decide) (Nat.le_of_ble_eq_true rfl) (Nat.le_of_ble_eq_true rfl) (Nat.le_of_ble_eq_true rfl) (fun s93 h93 => ?_)
        rw [tr_res] at h93
        obtain ⟨k1, k2, k3, k4⟩ := h93
        first | exact L96 σ frk.rfl' rfl hT hp | exact L96 s93 ((tr_f _ _ _).trans k1) k2 (fun k hk => by rw [k3 k (by omega), sI_wI, if_neg (fun z => by have := z.2.2; omega), hT k hk]) (by unfold bs at hp; rw [if_pos (show h i ≤ f by omega)] at hp; rw [k4]; exact hp)
    · rw [fa_lt, toI (r + lfS ρ (m + 1) i) (by omega)] at c9
      refine V.vret dX0_attempt_12 (Nat.le_of_ble_eq_true rfl) (Nat.le_of_ble_eq_true rfl) ?_
      refine hp _ ⟨frk.rfl', rfl, fun _ _ => rfl, ?_⟩
      rw [bs_cut _ _ _ _ _ _ _ _ _ _ (by show _ ≤ (sI σ 1 (P 0 11) 6).toInt; omega)]
set_option maxRecDepth 100000 in
theorem k_bAdd (hF : FX σ x P) {n : Nat} {who h ρ : Nat → Nat} (hB : BO σ P n who h ρ) (hn : n < 8) (w0 h0 r0 : Nat) (hp : ∀ s, bcr σ s ∧ BO s P (n + 1) (fun k => if k = n then w0 else who k) (fun k => if k = n then h0 else h k) (fun k => if k = n then r0 else ρ k) → post none s) : MX0_add E 1 0 0 [.ref (P 0 11), .int (nI w0), .int (nI h0), .int (nI r0)] σ post := by
  refine MA.of RX0 "add" [some (.ref (P 0 11)), some (.int (nI w0)), some (.int (nI h0)), some (.int (nI r0))] rfl rfl rfl (catAll rfl) (Nat.le_of_ble_eq_true rfl) rfl (fun X => ?_)
  refine V.aload_n (i := 0) dX0_add_0 rfl rfl ?_
  refine V.getS dX0_add_1 fl_X0_9 rfl hF.brd.2 hF.b0.1 ?_
  refine V.aload_n (i := 0) dX0_add_4 rfl rfl ?_
  refine V.geti dX0_add_5 fl_X0_27 rfl hF.brd.2 ?_
  refine V.as _ hB.1 ?_
  refine V.iload_n (i := 1) dX0_add_8 rfl rfl ?_
  refine V.iast (t := 27) dX0_add_9 hF.b0.2 (by decide) rfl rfl (show _ < 8 from (by omega)) (by decide) ?_
  refine V.aload_n (i := 0) dX0_add_10 rfl rfl ?_
  refine V.getS dX0_add_11 fl_X0_15 rfl hF.brd.2 hF.b1.1 ?_
  refine V.aload_n (i := 0) dX0_add_14 rfl rfl ?_
  refine V.geti dX0_add_15 fl_X0_27 rfl hF.brd.2 ?_
  refine V.as (nI n) (by rw [sI_wI, if_neg (by simp)]; exact hB.1) ?_
  refine V.iload_n (i := 2) dX0_add_18 rfl rfl ?_
  refine V.iast (t := 28) dX0_add_19 hF.b1.2 (by decide) rfl rfl (show _ < 8 from (by omega)) (by decide) ?_
  refine V.aload_n (i := 0) dX0_add_20 rfl rfl ?_
  refine V.getS dX0_add_21 fl_X0_18 rfl hF.brd.2 hF.b2.1 ?_
  refine V.aload_n (i := 0) dX0_add_24 rfl rfl ?_
  refine V.geti dX0_add_25 fl_X0_27 rfl hF.brd.2 ?_
  refine V.as (nI n) (by rw [sI_wI, if_neg (by simp), sI_wI, if_neg (by simp)]; exact hB.1) ?_
  refine V.iload_n (i := 3) dX0_add_28 rfl rfl ?_
  refine V.iast (t := 29) dX0_add_29 hF.b2.2 (by decide) rfl rfl (show _ < 8 from (by omega)) (by decide) ?_
  refine V.aload_n (i := 0) dX0_add_30 rfl rfl ?_
  refine V.dup dX0_add_31 rfl ?_
  refine V.geti dX0_add_32 fl_X0_27 rfl hF.brd.2 ?_
  refine V.as (nI n) (by rw [sI_wI, if_neg (by simp), sI_wI, if_neg (by simp), sI_wI, if_neg (by simp)]; exact hB.1) ?_
  refine V.iconst dX0_add_35 ic_1 ?_
  refine V.iadd dX0_add_36 ?_
  refine V.as _ (nI_add _ _) ?_
  refine V.puti dX0_add_37 fl_X0_27 rfl rfl hF.brd.2 ?_
  refine V.vret dX0_add_40 (Nat.le_of_ble_eq_true rfl) (Nat.le_of_ble_eq_true rfl) ?_
  refine hp _ ⟨(((bcr.wI rfl).trans (bcr.wI rfl)).trans (bcr.wI rfl)).trans (bcr.wI rfl), by rw [sI_wI, if_pos ⟨rfl, rfl, rfl⟩], fun k hk => ?_⟩
  by_cases q : k = n
  · subst q
    exact ⟨by simp [sI_wI], by simp [sI_wI], by simp [sI_wI]⟩
  · have := hB.2 k (by omega)
    exact ⟨by simp [sI_wI, q, this.1], by simp [sI_wI, q, this.2.1], by simp [sI_wI, q, this.2.2]⟩
set_option maxRecDepth 100000 in
theorem k_placeOf (hF : FX σ x P) {n : Nat} {who h ρ : Nat → Nat} (hB : BO σ P n who h ρ) (hn : n ≤ 8) (w : Int32) (hp : post (some (.int (if fstOf (fun k => decide (nI (who k) = w)) n 0 < n then nI (fstOf (fun k => decide (nI (who k) = w)) n 0) else -1))) σ) : MX0_placeOf E 1 0 0 [.ref (P 0 11), .int w] σ post := by
  refine MA.of RX0 "placeOf" [some (.ref (P 0 11)), some (.int w), none] rfl rfl rfl (catAll rfl) (Nat.le_of_ble_eq_true rfl) rfl (fun X => ?_)
  have loop : ∀ m k, m + k = n → fstOf (fun k => decide (nI (who k) = w)) n 0 = fstOf (fun k => decide (nI (who k) = w)) m k → V E X RX0 "placeOf" cX0_placeOf 3 (some .int) 1 0 0 (QM E X post 0 0) σ 0 0 2 [some (.ref (P 0 11)), some (.int w), some (.int (nI k))] [] := by
    intro m
    induction m with
    | zero =>
      intro k hk hf
      refine V.iload_n (i := 2) dX0_placeOf_2 rfl rfl ?_
      refine V.aload_n (i := 0) dX0_placeOf_3 rfl rfl ?_
      refine V.geti dX0_placeOf_4 fl_X0_27 rfl hF.brd.2 ?_
      refine V.icmp_geT (tgt := 28) dX0_placeOf_7 rfl (lpT hB.1 (by omega) (by omega)) ?_
      refine V.iconst dX0_placeOf_28 ic_m1 ?_
      refine V.iret dX0_placeOf_29 (Nat.le_of_ble_eq_true rfl) (Nat.le_of_ble_eq_true rfl) ?_
      rw [hf, if_neg (by unfold fstOf; omega)] at hp; exact hp
    | succ m ih =>
      intro k hk hf
      rw [fstOf_s] at hf
      refine V.iload_n (i := 2) dX0_placeOf_2 rfl rfl ?_
      refine V.aload_n (i := 0) dX0_placeOf_3 rfl rfl ?_
      refine V.geti dX0_placeOf_4 fl_X0_27 rfl hF.brd.2 ?_
      refine V.icmp_geF (tgt := 28) dX0_placeOf_7 rfl (lpF hB.1 (by omega) (by omega)) ?_
      refine V.aload_n (i := 0) dX0_placeOf_10 rfl rfl ?_
      refine V.getS dX0_placeOf_11 fl_X0_9 rfl hF.brd.2 hF.b0.1 ?_
      refine V.iload_n (i := 2) dX0_placeOf_14 rfl rfl ?_
      refine V.iald (t := 27) dX0_placeOf_15 hF.b0.2 (by decide) rfl rfl (show _ < 8 from (by omega)) (by decide) ?_
      refine V.as _ (hB.2 k (by omega)).1 ?_
      refine V.iload_n (i := 1) dX0_placeOf_16 rfl rfl ?_
      refine V.icmp_ne (tgt := 22) dX0_placeOf_17 rfl (fun c17 => ?_) (fun c17 => ?_)
      · refine V.iinc2 (by decide) dX0_placeOf_22 (inc1 _) ?_
        refine V.goto (tgt := 2) dX0_placeOf_25 rfl ?_
        exact ih (k + 1) (by omega) (hf.trans (if_neg (by simpa using c17)))
      · refine V.iload_n (i := 2) dX0_placeOf_20 rfl rfl ?_
        refine V.iret dX0_placeOf_21 (Nat.le_of_ble_eq_true rfl) (Nat.le_of_ble_eq_true rfl) ?_
        rw [hf.trans (if_pos (by simpa using c17)), if_pos (by omega)] at hp; exact hp
  refine V.iconst dX0_placeOf_0 ic_0 ?_
  refine V.istore_n2 (by decide) dX0_placeOf_1 ?_
  exact loop n 0 rfl rfl
theorem lfS_smN (ρ : Nat → Nat) : ∀ m i, smN ρ i + lfS ρ m i = smN ρ (i + m)
  | 0, i => rfl
  | m + 1, i => by
    have ih := lfS_smN ρ m (i + 1)
    have e : smN ρ (i + 1) = smN ρ i + ρ i := rfl
    rw [show i + (m + 1) = i + 1 + m by omega, ← ih, e]
    show smN ρ i + (ρ i + lfS ρ m (i + 1)) = _
    omega
set_option maxRecDepth 100000 in
theorem k_settle (n : Nat) (h ρ who : Nat → Nat) (hn8 : n ≤ 8) (hρ : ∀ k, ρ k ≤ 1000) (hh : ∀ k, h k ≤ 7) (hF : FX σ x P) (hB : BO σ P n who h ρ) (f s : Nat) (hf : f ≤ 24) (hs : s ≤ 24) (hp : ∀ t, AT σ P 0 (bs n h ρ n 0 f s 0 (fun _ => 0) (sI σ 31 (P 0 16), -1)) t → post none t) : MX0_settle E (12) 0 0 [.ref (P 0 11), .int (nI f), .int (nI s)] σ post := by
  refine MA.of RX0 "settle" [some (.ref (P 0 11)), some (.int (nI f)), some (.int (nI s)), none, none] rfl rfl rfl (catAll rfl) (Nat.le_of_ble_eq_true rfl) rfl (fun X => ?_)
  have hz := lfS_smN ρ n 0
  have hz2 : lfS ρ n 0 = smN ρ n := by rw [show (0 + n : Nat) = n by omega] at hz; unfold smN at hz; rw [Nat.zero_add] at hz; cases n <;> exact hz
  have loop : ∀ m k, m + k = n → V E X RX0 "settle" cX0_settle 5 none (12) 0 0 (QM E X post 0 0) σ 0 0 5 [some (.ref (P 0 11)), some (.int (nI f)), some (.int (nI s)), some (.int (nI (smN ρ k))), some (.int (nI k))] [] := by
    intro m
    induction m with
    | zero =>
      intro k hk
      rw [show k = n by omega, ← hz2]
      refine V.iload (i := 4) dX0_settle_5 rfl ?_
      refine V.aload_n (i := 0) dX0_settle_7 rfl rfl ?_
      refine V.geti dX0_settle_8 fl_X0_27 rfl hF.brd.2 ?_
      refine V.icmp_geT (tgt := 30) dX0_settle_11 rfl (lpT hB.1 (by omega) (by omega)) ?_
      refine V.aload_n (i := 0) dX0_settle_30 rfl rfl ?_
      refine V.iconst dX0_settle_31 ic_m1 ?_
      refine V.puti dX0_settle_32 fl_X0_31 rfl rfl hF.brd.2 ?_
      refine V.sts (σ' := wI σ 1 (P 0 11) 6 (-1)) rfl ?_
      refine V.aload_n (i := 0) dX0_settle_35 rfl rfl ?_
      refine V.iconst dX0_settle_36 ic_0 ?_
      refine V.iload_n (i := 1) dX0_settle_37 rfl rfl ?_
      refine V.iload_n (i := 2) dX0_settle_38 rfl rfl ?_
      refine V.iconst dX0_settle_39 ic_0 ?_
      refine V.iload_n (i := 3) dX0_settle_40 rfl rfl ?_
      refine V.cv5v (ci := 0) dX0_settle_41 lk_X0_34 (by decide) rfl hF.brd.2 (k_attempt n h ρ who hn8 hρ hh n 0 f s 0 (fun _ => 0) (wI σ 1 (P 0 11) 6 (-1)) _ (by omega) hf hs (by omega) (hF.at (frk.wI rfl)) (hB.at hF (frk.wI rfl)) (fun k hk => absurd hk (Nat.not_lt_zero k)) (fun s h => ⟨rfl, h⟩)) (by omega) (by decide) (Nat.le_of_ble_eq_true rfl) (Nat.le_of_ble_eq_true rfl) (Nat.le_of_ble_eq_true rfl) (fun s41 h41 => ?_)
      refine V.vret dX0_settle_44 (Nat.le_of_ble_eq_true rfl) (Nat.le_of_ble_eq_true rfl) ?_
      obtain ⟨k1, k2, k3, k4⟩ := h41
      have e31 : (sI (wI σ 1 (P 0 11) 6 (-1)) 31 (P 0 16), (sI (wI σ 1 (P 0 11) 6 (-1)) 1 (P 0 11) 6).toInt) = (sI σ 31 (P 0 16), (-1 : Int)) := by
        refine Prod.ext ?_ ?_
        · funext k
          show sI (wI σ 1 (P 0 11) 6 (-1)) 31 (P 0 16) k = _
          rw [sI_wI, if_neg (by simp)]
        · show (sI (wI σ 1 (P 0 11) 6 (-1)) 1 (P 0 11) 6).toInt = _
          rw [sI_wI, if_pos ⟨rfl, rfl, rfl⟩]; rfl
      rw [e31] at k4
      exact hp _ ⟨(frk.wI rfl).trans k1, k2, fun k hk => absurd hk (Nat.not_lt_zero k), k4⟩
    | succ m ih =>
      intro k hk
      refine V.iload (i := 4) dX0_settle_5 rfl ?_
      refine V.aload_n (i := 0) dX0_settle_7 rfl rfl ?_
      refine V.geti dX0_settle_8 fl_X0_27 rfl hF.brd.2 ?_
      refine V.icmp_geF (tgt := 30) dX0_settle_11 rfl (lpF hB.1 (by omega) (by omega)) ?_
      refine V.iload_n (i := 3) dX0_settle_14 rfl rfl ?_
      refine V.aload_n (i := 0) dX0_settle_15 rfl rfl ?_
      refine V.getS dX0_settle_16 fl_X0_18 rfl hF.brd.2 hF.b2.1 ?_
      refine V.iload (i := 4) dX0_settle_19 rfl ?_
      refine V.iald (t := 29) dX0_settle_21 hF.b2.2 (by decide) rfl rfl (show _ < 8 from (by omega)) (by decide) ?_
      refine V.as _ (hB.2 k (by omega)).2.2 ?_
      refine V.iadd dX0_settle_22 ?_
      refine V.as (nI (smN ρ (k + 1))) (by rw [nI_add]; rfl) ?_
      refine V.istore_n3 (by decide) dX0_settle_23 ?_
      refine V.iinc4 (by decide) dX0_settle_24 (inc1 _) ?_
      refine V.goto (tgt := 5) dX0_settle_27 rfl ?_
      exact ih (k + 1) (by omega)
  refine V.iconst dX0_settle_0 ic_0 ?_
  refine V.istore_n3 (by decide) dX0_settle_1 ?_
  refine V.iconst dX0_settle_2 ic_0 ?_
  refine V.istore4 (by decide) dX0_settle_3 ?_
  exact loop n 0 rfl
theorem BO.cg {n : Nat} {who h ρ who' h' ρ' : Nat → Nat} (hB : BO σ P n who h ρ) (e : ∀ k, k < n → who' k = who k ∧ h' k = h k ∧ ρ' k = ρ k) : BO σ P n who' h' ρ' :=
  ⟨hB.1, fun k hk => by rw [(e k hk).1, (e k hk).2.1, (e k hk).2.2]; exact hB.2 k hk⟩
def BG (s : Sg) (P : PT) (G : GS) (port : Int32) (k : Nat) : Prop := BO s P (atPort G port k).length (fun j => (atPort G port k).getD j 0) (fun j => hoursN G ((atPort G port k).getD j 0)) (fun j => riskN G ((atPort G port k).getD j 0))
theorem lookH {kd i : Nat} (h : gN G 2 i = kd) (hk : kd < 4) : lookHours kd = nI (hoursN G i) := by
  unfold hoursN
  rw [h]
  rcases (show kd = 0 ∨ kd = 1 ∨ kd = 2 ∨ kd = 3 by omega) with rfl | rfl | rfl | rfl <;> rfl
theorem BO.sc {s : Sg} {n : Nat} {who h ρ : Nat → Nat} (hB : BO σ P n who h ρ) (hF : FX σ x P) (f : scr σ s) : BO s P n who h ρ :=
  ⟨(f.1.num 5 hF.brd.2 (by decide) rfl).trans hB.1, fun k hk => ⟨(f.1.num k hF.b0.2 (by decide) rfl).trans (hB.2 k hk).1, (f.1.num k hF.b1.2 (by decide) rfl).trans (hB.2 k hk).2.1, (f.1.num k hF.b2.2 (by decide) rfl).trans (hB.2 k hk).2.2⟩⟩
set_option maxRecDepth 100000 in
theorem k_gather (hR : Rp σ x P G) (hI : Inv G) (port : Int32) (hp : ∀ s, bcr σ s ∧ BG s P G port (nSh G) → post none s) : MX10_gatherBoarding E 6 0 0 [.ref x, .int port] σ post := by
  refine MA.of RX10 "gatherBoarding" [some (.ref x), some (.int port), none, none] rfl rfl rfl (catAll rfl) (Nat.le_of_ble_eq_true rfl) rfl (fun X => ?_)
  have h16 := hI.shN
  have loop : ∀ m k s l3, m + k = nSh G → bcr σ s → BG s P G port k → V E X RX10 "gatherBoarding" cX10_gatherBoarding 4 none 6 0 0 (QM E X post 0 0) s 0 0 10 [some (.ref x), some (.int port), some (.int (nI k)), l3] [] := by
    intro m
    induction m with
    | zero =>
      intro k s l3 hk hs hB
      have hR2 := hR.bcr hs
      rw [show k = nSh G by omega] at hB
      refine V.iload_n (i := 2) dX10_gatherBoarding_10 rfl rfl ?_
      refine V.aload_n (i := 0) dX10_gatherBoarding_11 rfl rfl ?_
      refine V.geti dX10_gatherBoarding_12 fl_X10_86 rfl hR2.F.x ?_
      refine V.icmp_geT (tgt := 82) dX10_gatherBoarding_15 rfl (lpT (hR2.S.shipN.trans h16.1) (by omega) (by omega)) ?_
      refine V.vret dX10_gatherBoarding_82 (Nat.le_of_ble_eq_true rfl) (Nat.le_of_ble_eq_true rfl) ?_
      exact hp s ⟨hs, hB⟩
    | succ m ih =>
      intro k s l3 hk hs hB
      have hR2 := hR.bcr hs
      have hi : k < nSh G := by omega
      have hap := atPort_le G port k
      have hkd := hI.kind k hi
      have hbe := hR2.H.berth k hi
      have hat : atPort G port (k + 1) = if (atPort G port k).length < 8 ∧ inPort G port k then atPort G port k ++ [k] else atPort G port k := rfl
      have hB0 : sI s 1 (P 0 11) 5 = nI (atPort G port k).length := hB.1
      cases ho : openOf G (nI k) with
      | none =>
        rw [ho] at hbe
        have hin : ¬ ((atPort G port k).length < 8 ∧ inPort G port k = true) := fun z => by
          have z2 := z.2
          unfold inPort at z2
          rw [ho] at z2
          cases z2
        refine V.iload_n (i := 2) dX10_gatherBoarding_10 rfl rfl ?_
        refine V.aload_n (i := 0) dX10_gatherBoarding_11 rfl rfl ?_
        refine V.geti dX10_gatherBoarding_12 fl_X10_86 rfl hR2.F.x ?_
        refine V.icmp_geF (tgt := 82) dX10_gatherBoarding_15 rfl (lpF (hR2.S.shipN.trans h16.1) (by omega) (by omega)) ?_
        refine V.aload_n (i := 0) dX10_gatherBoarding_18 rfl rfl ?_
        refine V.getS dX10_gatherBoarding_19 fl_X10_68 rfl hR2.F.x hR2.F.brd.1 ?_
        refine V.geti dX10_gatherBoarding_22 fl_X10_372 rfl hR2.F.brd.2 ?_
        refine V.as _ hB0 ?_
        refine V.bipush dX10_gatherBoarding_25 bc_8 ?_
        refine V.icmp_ge (tgt := 82) dX10_gatherBoarding_27 rfl (fun c27 => ?_) (fun c27 => ?_)
        · rw [nI_leI (by decide) (by omega)] at c27
          refine V.vret dX10_gatherBoarding_82 (Nat.le_of_ble_eq_true rfl) (Nat.le_of_ble_eq_true rfl) ?_
          refine hp s ⟨hs, ?_⟩
          have e := atPort_full G port k (by omega) (m + 1)
          rw [show k + (m + 1) = nSh G by omega] at e
          unfold BG
          rw [e]
          exact hB
        · rw [nI_leI (by decide) (by omega)] at c27
          refine V.aload_n (i := 0) dX10_gatherBoarding_30 rfl rfl ?_
          refine V.getS dX10_gatherBoarding_31 fl_X10_11 rfl hR2.F.x hR2.F.ships.1 ?_
          refine V.iload_n (i := 2) dX10_gatherBoarding_34 rfl rfl ?_
          refine V.aaldS (t := 32) dX10_gatherBoarding_35 hR2.F.ships.2 (by decide) (by decide) rfl (show _ < 16 from (by omega)) (by decide) (hR2.H.at k hi).1 ?_
          refine V.astore_n3 (by decide) dX10_gatherBoarding_36 ?_
          refine V.aload_n (i := 3) dX10_gatherBoarding_37 rfl rfl ?_
          refine V.getN dX10_gatherBoarding_38 fl_X10_133 rfl (hR2.H.at k hi).2 hbe ?_
          refine V.ifnullN (tgt := 76) dX10_gatherBoarding_41 rfl ?_
          refine V.iinc2 (by decide) dX10_gatherBoarding_76 (inc1 _) ?_
          refine V.goto (tgt := 10) dX10_gatherBoarding_79 rfl ?_
          exact ih (k + 1) s _ (by omega) hs (by unfold BG; rw [hat, if_neg hin]; exact hB)
      | some c =>
        rw [ho] at hbe
        have hc := openK_is _ c ho
        have hin : inPort G port k = decide (G 15 c = port) := by unfold inPort; rw [ho]
        have hc1 : c < nCa G := hc.1
        refine V.iload_n (i := 2) dX10_gatherBoarding_10 rfl rfl ?_
        refine V.aload_n (i := 0) dX10_gatherBoarding_11 rfl rfl ?_
        refine V.geti dX10_gatherBoarding_12 fl_X10_86 rfl hR2.F.x ?_
        refine V.icmp_geF (tgt := 82) dX10_gatherBoarding_15 rfl (lpF (hR2.S.shipN.trans h16.1) (by omega) (by omega)) ?_
        refine V.aload_n (i := 0) dX10_gatherBoarding_18 rfl rfl ?_
        refine V.getS dX10_gatherBoarding_19 fl_X10_68 rfl hR2.F.x hR2.F.brd.1 ?_
        refine V.geti dX10_gatherBoarding_22 fl_X10_372 rfl hR2.F.brd.2 ?_
        refine V.as _ hB0 ?_
        refine V.bipush dX10_gatherBoarding_25 bc_8 ?_
        refine V.icmp_ge (tgt := 82) dX10_gatherBoarding_27 rfl (fun c27 => ?_) (fun c27 => ?_)
        · rw [nI_leI (by decide) (by omega)] at c27
          refine V.vret dX10_gatherBoarding_82 (Nat.le_of_ble_eq_true rfl) (Nat.le_of_ble_eq_true rfl) ?_
          refine hp s ⟨hs, ?_⟩
          have e := atPort_full G port k (by omega) (m + 1)
          rw [show k + (m + 1) = nSh G by omega] at e
          unfold BG
          rw [e]
          exact hB
        · rw [nI_leI (by decide) (by omega)] at c27
          refine V.aload_n (i := 0) dX10_gatherBoarding_30 rfl rfl ?_
          refine V.getS dX10_gatherBoarding_31 fl_X10_11 rfl hR2.F.x hR2.F.ships.1 ?_
          refine V.iload_n (i := 2) dX10_gatherBoarding_34 rfl rfl ?_
          refine V.aaldS (t := 32) dX10_gatherBoarding_35 hR2.F.ships.2 (by decide) (by decide) rfl (show _ < 16 from (by omega)) (by decide) (hR2.H.at k hi).1 ?_
          refine V.astore_n3 (by decide) dX10_gatherBoarding_36 ?_
          refine V.aload_n (i := 3) dX10_gatherBoarding_37 rfl rfl ?_
          refine V.getS dX10_gatherBoarding_38 fl_X10_133 rfl (hR2.H.at k hi).2 hbe ?_
          refine V.ifnull dX10_gatherBoarding_41 ?_
          refine V.aload_n (i := 3) dX10_gatherBoarding_44 rfl rfl ?_
          refine V.getS dX10_gatherBoarding_45 fl_X10_133 rfl (hR2.H.at k hi).2 hbe ?_
          refine V.geti dX10_gatherBoarding_48 fl_X10_169 rfl (hR2.C.at c hc1).2 ?_
          refine V.as _ (hR2.C.port c hc1) ?_
          refine V.iload_n (i := 1) dX10_gatherBoarding_51 rfl rfl ?_
          refine V.icmp_ne (tgt := 76) dX10_gatherBoarding_52 rfl (fun c52 => ?_) (fun c52 => ?_)
          · refine V.iinc2 (by decide) dX10_gatherBoarding_76 (inc1 _) ?_
            refine V.goto (tgt := 10) dX10_gatherBoarding_79 rfl ?_
            first
            | (refine ih (k + 1) s _ (by omega) hs ?_
               unfold BG; rw [hat, if_neg (by rw [hin]; simp [c52])]; exact hB)
            | (refine ih (k + 1) s73 _ (by omega) ((hs.trans h70.bcr).trans h73.1) ?_
               unfold BG
               rw [hat, if_pos ⟨by omega, by rw [hin]; simpa using c52⟩]
               have q := h73.2
               rw [List.length_append]
               have gl : ∀ j, j < (atPort G port k).length + 1 → (atPort G port k ++ [k]).getD j 0 = if j = (atPort G port k).length then k else (atPort G port k).getD j 0 := by
                 intro j hj
                 by_cases e : j = (atPort G port k).length
                 · rw [if_pos e, e]; simp [List.getD]
                 · rw [if_neg e]; simp [List.getD, List.getElem?_append_left (show j < (atPort G port k).length by omega)]
               refine q.cg (fun j hj => ?_)
               have g := gl j hj
               by_cases e : j = (atPort G port k).length
               · rw [if_pos e] at g; simp only [if_pos e]; rw [g]; exact ⟨rfl, rfl, rfl⟩
               · rw [if_neg e] at g; simp only [if_neg e]; rw [g]; exact ⟨rfl, rfl, rfl⟩)
          · refine V.aload_n (i := 0) dX10_gatherBoarding_55 rfl rfl ?_
            refine V.getS dX10_gatherBoarding_56 fl_X10_68 rfl hR2.F.x hR2.F.brd.1 ?_
            refine V.iload_n (i := 2) dX10_gatherBoarding_59 rfl rfl ?_
            refine V.gets (i := 1) (by decide) dX10_gatherBoarding_60 fs_X10_106 ?_
            refine V.aload_n (i := 3) dX10_gatherBoarding_63 rfl rfl ?_
            refine V.geti dX10_gatherBoarding_64 fl_X10_100 rfl (hR2.H.at k hi).2 ?_
            refine V.as _ ((hR2.H.kind k hi).trans hkd.1) ?_
            refine V.sald (i := 1) (by decide) dX10_gatherBoarding_67 rfl hkd.2 ?_
            refine V.as _ (lookH rfl hkd.2) ?_
            refine V.aload_n (i := 0) dX10_gatherBoarding_68 rfl rfl ?_
            refine V.aload_n (i := 3) dX10_gatherBoarding_69 rfl rfl ?_
            refine V.cv1s (ci := 10) dX10_gatherBoarding_70 lk_X10_258 (by decide) rfl hR2.F.x (k_riskOf hR2 hI k hi (fun s h => ⟨rfl, h⟩)) (by decide) (by decide) (Nat.le_of_ble_eq_true rfl) (Nat.le_of_ble_eq_true rfl) (Nat.le_of_ble_eq_true rfl) (fun s70 h70 => ?_)
            have hR3 := hR2.scr h70
            refine V.cv3v (ci := 0) dX10_gatherBoarding_73 lk_X10_375 (by decide) rfl hR3.F.brd.2 (k_bAdd hR3.F (hB.sc hR2.F h70) (by omega) k (hoursN G k) (riskN G k) (fun s h => ⟨rfl, h⟩)) (by decide) (by decide) (Nat.le_of_ble_eq_true rfl) (Nat.le_of_ble_eq_true rfl) (Nat.le_of_ble_eq_true rfl) (fun s73 h73 => ?_)
            refine V.iinc2 (by decide) dX10_gatherBoarding_76 (inc1 _) ?_
            refine V.goto (tgt := 10) dX10_gatherBoarding_79 rfl ?_
            first
            | (refine ih (k + 1) s _ (by omega) hs ?_
               unfold BG; rw [hat, if_neg (by rw [hin]; simp [c52])]; exact hB)
            | (refine ih (k + 1) s73 _ (by omega) ((hs.trans h70.bcr).trans h73.1) ?_
               unfold BG
               rw [hat, if_pos ⟨by omega, by rw [hin]; simpa using c52⟩]
               have q := h73.2
               rw [List.length_append]
               have gl : ∀ j, j < (atPort G port k).length + 1 → (atPort G port k ++ [k]).getD j 0 = if j = (atPort G port k).length then k else (atPort G port k).getD j 0 := by
                 intro j hj
                 by_cases e : j = (atPort G port k).length
                 · rw [if_pos e, e]; simp [List.getD]
                 · rw [if_neg e]; simp [List.getD, List.getElem?_append_left (show j < (atPort G port k).length by omega)]
               refine q.cg (fun j hj => ?_)
               have g := gl j hj
               by_cases e : j = (atPort G port k).length
               · rw [if_pos e] at g; simp only [if_pos e]; rw [g]; exact ⟨rfl, rfl, rfl⟩
               · rw [if_neg e] at g; simp only [if_neg e]; rw [g]; exact ⟨rfl, rfl, rfl⟩)
  refine V.aload_n (i := 0) dX10_gatherBoarding_0 rfl rfl ?_
  refine V.getS dX10_gatherBoarding_1 fl_X10_68 rfl hR.F.x hR.F.brd.1 ?_
  refine V.iconst dX10_gatherBoarding_4 ic_0 ?_
  refine V.puti dX10_gatherBoarding_5 fl_X10_372 rfl rfl hR.F.brd.2 ?_
  refine V.sts (σ' := wI σ 1 (P 0 11) 5 (nI 0)) rfl ?_
  refine V.iconst dX10_gatherBoarding_8 ic_0 ?_
  refine V.istore_n2 (by decide) dX10_gatherBoarding_9 ?_
  exact loop (nSh G) 0 _ _ rfl (bcr.wI rfl) ⟨by rw [sI_wI, if_pos ⟨rfl, rfl, rfl⟩]; rfl, fun k hk => absurd hk (Nat.not_lt_zero k)⟩
theorem AT.bcr {i : Nat} {res : (Nat → Int32) × Int} {t : Sg} (h : AT σ P i res t) : bcr σ t :=
  ⟨⟨h.1.1, fun u a k hu ha => h.1.2.1 u a k (by
    have q := of_decide_eq_true hu
    exact decide_eq_true ⟨by omega, by omega, fun z => q.1 z.1⟩) ha, fun u a k _ ha => h.1.2.2 u a k rfl ha⟩, h.2.1⟩
set_option maxRecDepth 100000 in
theorem k_board (hR : Rp σ x P G) (hI : Inv G) (port hrs w : Int32) (hp : PU x σ (s_board G port hrs w) post) : MX10_board E 24 0 0 [.ref x, .int port, .int hrs, .int w] σ post := by
  refine MA.of RX10 "board" [some (.ref x), some (.int port), some (.int hrs), some (.int w), none] rfl rfl rfl (catAll rfl) (Nat.le_of_ble_eq_true rfl) rfl (fun X => ?_)
  have h16 := hI.shN
  have hap := atPort_le G port (nSh G)
  generalize hLL : atPort G port (nSh G) = LL at hap
  have L34 : ∀ q, q < 2500 → hrs = nI q → (0 ≤ port.toInt ∧ port.toInt ≤ 4) → q / 100 ≤ 24 → q % 100 ≤ 24 → (w.toInt = -1 ∨ (0 ≤ w.toInt ∧ w.toInt < nSh G)) → V E X RX10 "board" cX10_board 5 (some .int) 24 0 0 (QM E X post 0 0) σ 0 0 34 [some (.ref x), some (.int port), some (.int (nI q)), some (.int w), none] [] := by
    intro q hq ehr hg1 hg2 hg3 hg4
    have hz : s_board G port hrs w = (if w.toInt = -1 then (Int32.ofInt (brd G port (q / 100) (q % 100)).2, G)
     else if fstOf (fun k => decide (nI (LL.getD k 0) = w)) LL.length 0 < LL.length then
       ((brd G port (q / 100) (q % 100)).1 (fstOf (fun k => decide (nI (LL.getD k 0) = w)) LL.length 0), G)
     else fnd G 2) := by
      unfold s_board
      rw [ehr, show tn (nI q) = q from tn_nI (by omega), toI q (by omega), if_pos ⟨hg1, ⟨by omega, by omega, by omega⟩, hg4⟩, hLL]
    have hm1 : w.toInt = -1 → ¬ fstOf (fun k => decide (nI (LL.getD k 0) = w)) LL.length 0 < LL.length := by
      intro hw
      have key : ∀ m k, m + k = LL.length → fstOf (fun k => decide (nI (LL.getD k 0) = w)) m k = LL.length := by
        intro m
        induction m with
        | zero => intro k hk; unfold fstOf; omega
        | succ m ih =>
          intro k hk
          rw [fstOf_s, if_neg, ih (k + 1) (by omega)]
          simp only [decide_eq_true_eq]
          intro e
          have := hap.2 k (by omega)
          rw [← e, toI _ (by omega)] at hw
          omega
      rw [key LL.length 0 (by omega)]
      omega
    by_cases qf : fstOf (fun k => decide (nI (LL.getD k 0) = w)) LL.length 0 < LL.length
    · have hne : ¬ w.toInt = -1 := fun e => hm1 e qf
      refine V.aload_n (i := 0) dX10_board_34 rfl rfl ?_
      refine V.iload_n (i := 1) dX10_board_35 rfl rfl ?_
      refine V.cv1v (ci := 10) dX10_board_36 lk_X10_265 (by decide) rfl hR.F.x (k_gather hR hI port (fun s h => ⟨rfl, h⟩)) (by decide) (by decide) (Nat.le_of_ble_eq_true rfl) (Nat.le_of_ble_eq_true rfl) (Nat.le_of_ble_eq_true rfl) (fun s36 h36 => ?_)
      have hR2 := hR.bcr h36.1
      have hB : BO s36 P LL.length (fun j => LL.getD j 0) (fun j => hoursN G (LL.getD j 0)) (fun j => riskN G (LL.getD j 0)) := by have q := h36.2; unfold BG at q; rw [hLL] at q; exact q
      refine V.aload_n (i := 0) dX10_board_39 rfl rfl ?_
      refine V.getS dX10_board_40 fl_X10_68 rfl hR2.F.x hR2.F.brd.1 ?_
      refine V.iload_n (i := 3) dX10_board_43 rfl rfl ?_
      refine V.cv1D (ci := 0) dX10_board_44 lk_X10_268 (by decide) rfl hR2.F.brd.2 (k_placeOf hR2.F hB hap.1 w ⟨rfl, rfl⟩) (by decide) (by decide) (Nat.le_of_ble_eq_true rfl) (Nat.le_of_ble_eq_true rfl) (Nat.le_of_ble_eq_true rfl) ?_
      first | refine V.as _ (if_pos qf) ?_ | refine V.as (-1) (if_neg qf) ?_
      refine V.istore4 (by decide) dX10_board_47 ?_
      refine V.iload_n (i := 3) dX10_board_49 rfl rfl ?_
      refine V.if_ltF (tgt := 64) dX10_board_50 rfl (by rw [lt0]; omega) ?_
      refine V.iload (i := 4) dX10_board_53 rfl ?_
      refine V.if_geT (tgt := 64) dX10_board_55 rfl (Int32.not_lt.mp (nI_pos (by omega))) ?_
      refine V.aload_n (i := 0) dX10_board_64 rfl rfl ?_
      refine V.getS dX10_board_65 fl_X10_68 rfl hR2.F.x hR2.F.brd.1 ?_
      refine V.iload_n (i := 2) dX10_board_68 rfl rfl ?_
      refine V.bipush dX10_board_69 bc_100 ?_
      refine V.idiv dX10_board_71 (by decide) ?_
      refine V.as _ (pk_div (by omega) (by decide) (by decide)) ?_
      refine V.iload_n (i := 2) dX10_board_72 rfl rfl ?_
      refine V.bipush dX10_board_73 bc_100 ?_
      refine V.irem dX10_board_75 (by decide) ?_
      refine V.as _ (pk_rem (by omega) (by decide) (by decide)) ?_
      refine V.cv2v (ci := 0) dX10_board_76 lk_X10_271 (by decide) rfl hR2.F.brd.2 (k_settle LL.length (fun j => hoursN G (LL.getD j 0)) (fun j => riskN G (LL.getD j 0)) (fun j => LL.getD j 0) hap.1 (fun k => riskN_le) (fun k => hoursN_le G _) hR2.F hB (q / 100) (q % 100) hg2 hg3 (fun s h => ⟨rfl, h⟩)) (by decide) (by decide) (Nat.le_of_ble_eq_true rfl) (Nat.le_of_ble_eq_true rfl) (Nat.le_of_ble_eq_true rfl) (fun s76 h76 => ?_)
      have hin := bs_init LL.length (fun k => hoursN G (LL.getD k 0)) (fun k => riskN G (LL.getD k 0)) LL.length 0 (q / 100) (q % 100) 0 (fun _ => 0) (fun _ => 0) (sI s36 31 (P 0 16), -1) (fun _ => 0, -1) (by omega) (fun k hk => by omega) rfl (fun z => absurd z (show ¬ (0 : Int) ≤ -1 by decide))
      have hbrd : brd G port (q / 100) (q % 100) = bs LL.length (fun k => hoursN G (LL.getD k 0)) (fun k => riskN G (LL.getD k 0)) LL.length 0 (q / 100) (q % 100) 0 (fun _ => 0) (fun _ => 0, -1) := by unfold brd; rw [hLL]
      rw [← hbrd] at hin
      have e46 : ∀ k, k < LL.length → sI s76 31 (P 0 16) k = (brd G port (q / 100) (q % 100)).1 k := fun k hk => (congrFun (congrArg Prod.fst h76.2.2.2) k).trans (hin.1.2 k hk)
      have e47 : (sI s76 1 (P 0 11) 6).toInt = (brd G port (q / 100) (q % 100)).2 := (congrArg Prod.snd h76.2.2.2).trans hin.1.1
      have hR3 := hR2.bcr h76.bcr
      have hG3 : sG s76 = sG σ := h76.2.1.trans h36.1.2
      refine V.iload (i := 4) dX10_board_79 rfl ?_
      refine V.if_geT (tgt := 94) dX10_board_81 rfl (Int32.not_lt.mp (nI_pos (by omega))) ?_
      refine V.aload_n (i := 0) dX10_board_94 rfl rfl ?_
      refine V.getS dX10_board_95 fl_X10_68 rfl hR3.F.x hR3.F.brd.1 ?_
      refine V.getS dX10_board_98 fl_X10_277 rfl hR3.F.brd.2 hR3.F.b4.1 ?_
      refine V.iload (i := 4) dX10_board_101 rfl ?_
      refine V.iald (t := 31) dX10_board_103 hR3.F.b4.2 (by decide) rfl rfl (show _ < 8 from (by omega)) (by decide) ?_
      refine V.iret dX10_board_104 (Nat.le_of_ble_eq_true rfl) (Nat.le_of_ble_eq_true rfl) ?_
      exact pv hp (hz.trans ((if_neg hne).trans (if_pos qf))) (e46 _ qf) hR3 hG3
    · by_cases hne : w.toInt = -1
      · skip
        refine V.aload_n (i := 0) dX10_board_34 rfl rfl ?_
        refine V.iload_n (i := 1) dX10_board_35 rfl rfl ?_
        refine V.cv1v (ci := 10) dX10_board_36 lk_X10_265 (by decide) rfl hR.F.x (k_gather hR hI port (fun s h => ⟨rfl, h⟩)) (by decide) (by decide) (Nat.le_of_ble_eq_true rfl) (Nat.le_of_ble_eq_true rfl) (Nat.le_of_ble_eq_true rfl) (fun s36 h36 => ?_)
        have hR2 := hR.bcr h36.1
        have hB : BO s36 P LL.length (fun j => LL.getD j 0) (fun j => hoursN G (LL.getD j 0)) (fun j => riskN G (LL.getD j 0)) := by have q := h36.2; unfold BG at q; rw [hLL] at q; exact q
        refine V.aload_n (i := 0) dX10_board_39 rfl rfl ?_
        refine V.getS dX10_board_40 fl_X10_68 rfl hR2.F.x hR2.F.brd.1 ?_
        refine V.iload_n (i := 3) dX10_board_43 rfl rfl ?_
        refine V.cv1D (ci := 0) dX10_board_44 lk_X10_268 (by decide) rfl hR2.F.brd.2 (k_placeOf hR2.F hB hap.1 w ⟨rfl, rfl⟩) (by decide) (by decide) (Nat.le_of_ble_eq_true rfl) (Nat.le_of_ble_eq_true rfl) (Nat.le_of_ble_eq_true rfl) ?_
        first | refine V.as _ (if_pos qf) ?_ | refine V.as (-1) (if_neg qf) ?_
        refine V.istore4 (by decide) dX10_board_47 ?_
        refine V.iload_n (i := 3) dX10_board_49 rfl rfl ?_
        refine V.if_ltT (tgt := 64) dX10_board_50 rfl (by rw [lt0]; omega) ?_
        refine V.aload_n (i := 0) dX10_board_64 rfl rfl ?_
        refine V.getS dX10_board_65 fl_X10_68 rfl hR2.F.x hR2.F.brd.1 ?_
        refine V.iload_n (i := 2) dX10_board_68 rfl rfl ?_
        refine V.bipush dX10_board_69 bc_100 ?_
        refine V.idiv dX10_board_71 (by decide) ?_
        refine V.as _ (pk_div (by omega) (by decide) (by decide)) ?_
        refine V.iload_n (i := 2) dX10_board_72 rfl rfl ?_
        refine V.bipush dX10_board_73 bc_100 ?_
        refine V.irem dX10_board_75 (by decide) ?_
        refine V.as _ (pk_rem (by omega) (by decide) (by decide)) ?_
        refine V.cv2v (ci := 0) dX10_board_76 lk_X10_271 (by decide) rfl hR2.F.brd.2 (k_settle LL.length (fun j => hoursN G (LL.getD j 0)) (fun j => riskN G (LL.getD j 0)) (fun j => LL.getD j 0) hap.1 (fun k => riskN_le) (fun k => hoursN_le G _) hR2.F hB (q / 100) (q % 100) hg2 hg3 (fun s h => ⟨rfl, h⟩)) (by decide) (by decide) (Nat.le_of_ble_eq_true rfl) (Nat.le_of_ble_eq_true rfl) (Nat.le_of_ble_eq_true rfl) (fun s76 h76 => ?_)
        have hin := bs_init LL.length (fun k => hoursN G (LL.getD k 0)) (fun k => riskN G (LL.getD k 0)) LL.length 0 (q / 100) (q % 100) 0 (fun _ => 0) (fun _ => 0) (sI s36 31 (P 0 16), -1) (fun _ => 0, -1) (by omega) (fun k hk => by omega) rfl (fun z => absurd z (show ¬ (0 : Int) ≤ -1 by decide))
        have hbrd : brd G port (q / 100) (q % 100) = bs LL.length (fun k => hoursN G (LL.getD k 0)) (fun k => riskN G (LL.getD k 0)) LL.length 0 (q / 100) (q % 100) 0 (fun _ => 0) (fun _ => 0, -1) := by unfold brd; rw [hLL]
        rw [← hbrd] at hin
        have e46 : ∀ k, k < LL.length → sI s76 31 (P 0 16) k = (brd G port (q / 100) (q % 100)).1 k := fun k hk => (congrFun (congrArg Prod.fst h76.2.2.2) k).trans (hin.1.2 k hk)
        have e47 : (sI s76 1 (P 0 11) 6).toInt = (brd G port (q / 100) (q % 100)).2 := (congrArg Prod.snd h76.2.2.2).trans hin.1.1
        have hR3 := hR2.bcr h76.bcr
        have hG3 : sG s76 = sG σ := h76.2.1.trans h36.1.2
        refine V.iload (i := 4) dX10_board_79 rfl ?_
        refine V.if_geF (tgt := 94) dX10_board_81 rfl (by decide) ?_
        refine V.aload_n (i := 0) dX10_board_84 rfl rfl ?_
        refine V.getS dX10_board_85 fl_X10_68 rfl hR3.F.x hR3.F.brd.1 ?_
        refine V.geti dX10_board_88 fl_X10_274 rfl hR3.F.brd.2 ?_
        refine V.goto (tgt := 104) dX10_board_91 rfl ?_
        refine V.iret dX10_board_104 (Nat.le_of_ble_eq_true rfl) (Nat.le_of_ble_eq_true rfl) ?_
        exact pv hp (hz.trans (if_pos hne)) (by rw [← e47, fb_asI]) hR3 hG3
      · skip
        refine V.aload_n (i := 0) dX10_board_34 rfl rfl ?_
        refine V.iload_n (i := 1) dX10_board_35 rfl rfl ?_
        refine V.cv1v (ci := 10) dX10_board_36 lk_X10_265 (by decide) rfl hR.F.x (k_gather hR hI port (fun s h => ⟨rfl, h⟩)) (by decide) (by decide) (Nat.le_of_ble_eq_true rfl) (Nat.le_of_ble_eq_true rfl) (Nat.le_of_ble_eq_true rfl) (fun s36 h36 => ?_)
        have hR2 := hR.bcr h36.1
        have hB : BO s36 P LL.length (fun j => LL.getD j 0) (fun j => hoursN G (LL.getD j 0)) (fun j => riskN G (LL.getD j 0)) := by have q := h36.2; unfold BG at q; rw [hLL] at q; exact q
        refine V.aload_n (i := 0) dX10_board_39 rfl rfl ?_
        refine V.getS dX10_board_40 fl_X10_68 rfl hR2.F.x hR2.F.brd.1 ?_
        refine V.iload_n (i := 3) dX10_board_43 rfl rfl ?_
        refine V.cv1D (ci := 0) dX10_board_44 lk_X10_268 (by decide) rfl hR2.F.brd.2 (k_placeOf hR2.F hB hap.1 w ⟨rfl, rfl⟩) (by decide) (by decide) (Nat.le_of_ble_eq_true rfl) (Nat.le_of_ble_eq_true rfl) (Nat.le_of_ble_eq_true rfl) ?_
        first | refine V.as _ (if_pos qf) ?_ | refine V.as (-1) (if_neg qf) ?_
        refine V.istore4 (by decide) dX10_board_47 ?_
        refine V.iload_n (i := 3) dX10_board_49 rfl rfl ?_
        refine V.if_ltF (tgt := 64) dX10_board_50 rfl (by rw [lt0]; omega) ?_
        refine V.iload (i := 4) dX10_board_53 rfl ?_
        refine V.if_geF (tgt := 64) dX10_board_55 rfl (by decide) ?_
        refine V.aload_n (i := 0) dX10_board_58 rfl rfl ?_
        refine V.iconst dX10_board_59 ic_2 ?_
        refine V.cv1D (ci := 10) dX10_board_60 lk_X10_82 (by decide) rfl hR2.F.x (k_finding hR2 _ (by decide) ⟨rfl, rfl⟩) (by decide) (by decide) (Nat.le_of_ble_eq_true rfl) (Nat.le_of_ble_eq_true rfl) (Nat.le_of_ble_eq_true rfl) ?_
        refine V.iret dX10_board_63 (Nat.le_of_ble_eq_true rfl) (Nat.le_of_ble_eq_true rfl) ?_
        exact puF hp (hz.trans ((if_neg hne).trans (if_neg qf))) hR2 h36.1.2
  refine V.iload_n (i := 1) dX10_board_0 rfl rfl ?_
  refine V.iconst dX10_board_1 ic_5 ?_
  refine V.cs2D dX10_board_2 lk_X10_96 (k_isBelowN _ 5 (by decide) ⟨rfl, rfl⟩) (by decide) (by decide) (Nat.le_of_ble_eq_true rfl) (Nat.le_of_ble_eq_true rfl) (Nat.le_of_ble_eq_true rfl) ?_
  refine V.ifb_eq (tgt := 28) dX10_board_5 rfl (fun c5 => ?_) (fun c5 => ?_)
  · refine V.aload_n (i := 0) dX10_board_28 rfl rfl ?_
    refine V.iconst dX10_board_29 ic_1 ?_
    refine V.cv1D (ci := 10) dX10_board_30 lk_X10_82 (by decide) rfl hR.F.x (k_finding hR _ (by decide) ⟨rfl, rfl⟩) (by decide) (by decide) (Nat.le_of_ble_eq_true rfl) (Nat.le_of_ble_eq_true rfl) (Nat.le_of_ble_eq_true rfl) ?_
    refine V.iret dX10_board_33 (Nat.le_of_ble_eq_true rfl) (Nat.le_of_ble_eq_true rfl) ?_
    exact puF hp (if_neg (by omega)) hR rfl
  · refine V.iload_n (i := 2) dX10_board_8 rfl rfl ?_
    refine V.cs1D dX10_board_9 lk_X10_262 (k_areHours hrs ⟨rfl, rfl⟩) (by decide) (by decide) (Nat.le_of_ble_eq_true rfl) (Nat.le_of_ble_eq_true rfl) (Nat.le_of_ble_eq_true rfl) ?_
    refine V.ifb_eq (tgt := 28) dX10_board_12 rfl (fun c12 => ?_) (fun c12 => ?_)
    · refine V.aload_n (i := 0) dX10_board_28 rfl rfl ?_
      refine V.iconst dX10_board_29 ic_1 ?_
      refine V.cv1D (ci := 10) dX10_board_30 lk_X10_82 (by decide) rfl hR.F.x (k_finding hR _ (by decide) ⟨rfl, rfl⟩) (by decide) (by decide) (Nat.le_of_ble_eq_true rfl) (Nat.le_of_ble_eq_true rfl) (Nat.le_of_ble_eq_true rfl) ?_
      refine V.iret dX10_board_33 (Nat.le_of_ble_eq_true rfl) (Nat.le_of_ble_eq_true rfl) ?_
      exact puF hp (if_neg (by omega)) hR rfl
    · refine V.iload_n (i := 3) dX10_board_15 rfl rfl ?_
      refine V.iconst dX10_board_16 ic_m1 ?_
      refine V.icmp_lt (tgt := 28) dX10_board_17 rfl (fun c17 => ?_) (fun c17 => ?_)
      · rw [fa_lt, show (-1 : Int32).toInt = -1 from rfl] at c17
        refine V.aload_n (i := 0) dX10_board_28 rfl rfl ?_
        refine V.iconst dX10_board_29 ic_1 ?_
        refine V.cv1D (ci := 10) dX10_board_30 lk_X10_82 (by decide) rfl hR.F.x (k_finding hR _ (by decide) ⟨rfl, rfl⟩) (by decide) (by decide) (Nat.le_of_ble_eq_true rfl) (Nat.le_of_ble_eq_true rfl) (Nat.le_of_ble_eq_true rfl) ?_
        refine V.iret dX10_board_33 (Nat.le_of_ble_eq_true rfl) (Nat.le_of_ble_eq_true rfl) ?_
        exact puF hp (if_neg (by omega)) hR rfl
      · rw [fa_lt, show (-1 : Int32).toInt = -1 from rfl] at c17
        refine V.iload_n (i := 3) dX10_board_20 rfl rfl ?_
        refine V.aload_n (i := 0) dX10_board_21 rfl rfl ?_
        refine V.geti dX10_board_22 fl_X10_86 rfl hR.F.x ?_
        refine V.icmp_lt (tgt := 34) dX10_board_25 rfl (fun c25 => ?_) (fun c25 => ?_)
        · rw [hR.S.shipN, h16.1, fa_lt, toI _ (by omega)] at c25
          obtain ⟨q, hq, ehr⟩ := idxOf (x := hrs) (n := 2500) (by omega)
          rw [ehr, toI q (by omega)] at c12
          rw [ehr]
          exact L34 q hq ehr (by omega) (by omega) (by omega) (by omega)
        · rw [hR.S.shipN, h16.1, fa_lt, toI _ (by omega)] at c25
          refine V.aload_n (i := 0) dX10_board_28 rfl rfl ?_
          refine V.iconst dX10_board_29 ic_1 ?_
          refine V.cv1D (ci := 10) dX10_board_30 lk_X10_82 (by decide) rfl hR.F.x (k_finding hR _ (by decide) ⟨rfl, rfl⟩) (by decide) (by decide) (Nat.le_of_ble_eq_true rfl) (Nat.le_of_ble_eq_true rfl) (Nat.le_of_ble_eq_true rfl) ?_
          refine V.iret dX10_board_33 (Nat.le_of_ble_eq_true rfl) (Nat.le_of_ble_eq_true rfl) ?_
          exact puF hp (if_neg (by omega)) hR rfl
end BOARD

