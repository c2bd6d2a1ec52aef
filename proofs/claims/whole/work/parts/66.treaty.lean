/-! ===== the class: a treaty ===== -/
section TREATY
variable {E : VE} {σ s s' : Sg} {G : GS} {x : Nat} {P : PT} {post : Option Value → Sg → Prop} {N0 a t w g : Nat}
theorem gd_iff : gd G a = true ↔ ¬ (rowEnd G a < a + rowLeast G a ∨ isByt G (rowEnd G a) 59 = false) := by
  unfold gd
  rw [Bool.and_eq_true, decide_eq_true_eq]
  constructor
  · rintro ⟨h1, h2⟩ (z | z)
    · omega
    · rw [h2] at z; cases z
  · intro h
    refine ⟨Classical.byContradiction fun z => h (Or.inl (by omega)), ?_⟩
    cases q : isByt G (rowEnd G a) 59
    · exact absurd (Or.inr q) h
    · rfl
theorem rd_go {m : Nat} (ha : a < nTp G) (hg : gd G a = true) : rd (m + 1) G a = rd m (rowTells G a (rowEnd G a)) (rowEnd G a + 1) := by
  conv => lhs; unfold rd
  rw [if_neg (by omega), if_neg (gd_iff.mp hg)]
theorem rd_bad {m : Nat} (ha : a < nTp G) (hg : gd G a = false) : rd (m + 1) G a = (some (rowEnd G a), G) := by
  conv => lhs; unfold rd
  rw [if_neg (by omega), if_pos (Classical.byContradiction fun z => by
    have := gd_iff.mpr z
    rw [hg] at this
    cases this)]
theorem rd_end {m : Nat} (ha : nTp G ≤ a) : rd (m + 1) G a = (none, G) := by
  conv => lhs; unfold rd
  rw [if_pos ha]
theorem gd_adv (hg : gd G a = true) : a + 3 ≤ rowEnd G a + 1 ∧ rowEnd G a ≤ a + 3 := by
  have h1 := gd_iff.mp hg
  have hL : 2 ≤ rowLeast G a := by unfold rowLeast; split <;> omega
  have hRE : rowEnd G a ≤ a + 3 := by
    unfold rowEnd
    repeat' split
    all_goals omega
  constructor
  · refine Classical.byContradiction fun z => h1 (Or.inl (by omega))
  · exact hRE
/-- what reading leaves -/
def RI (N0 : Nat) (s s' : Sg) (P : PT) (t w g : Nat) (R : Option Nat × GS) : Prop := rdF N0 s s' ∧ (R.1 = none → TT N0 s' t w g R.2) ∧ ∀ e, R.1 = some e → sI s' 8 (P 0 6) 2 = nI e
set_option maxRecDepth 100000 in
theorem k_readInto (ht8 : sT s (P 0 6) = 8) (h : TP N0 (wI s 8 (P 0 6) 2 (nI 0)) P G 0) (hT : TT N0 s t w g G) (hp : ∀ s', RI N0 s s' P t w g (rd 61 G 0) → post (some (.int (b2 ((rd 61 G 0).1 = none)))) s') : MX7_readInto E 6 0 0 [.ref (P 0 6), .ref t] s post := by
  refine MA.of RX7 "readInto" [some (.ref (P 0 6)), some (.ref t), none, none] rfl rfl rfl (catAll rfl) (Nat.le_of_ble_eq_true rfl) rfl (fun X => ?_)
  have h60 := h.2.2.2.2.2.2.2
  generalize hR : rd 61 G 0 = R at hp
  have bad : ∀ s1 k e, R.1 = some e → RI N0 s s1 P t w g R → sT s1 (P 0 6) = 8 → V E X RX7 "readInto" cX7_readInto 4 (some .boolean) 6 0 0 (QM E X post 0 0) s1 0 0 9 [some (.ref (P 0 6)), some (.ref t), some (.int (nI 0)), some (.int (nI k))] [] := by
    intro s1 k e he hri ht1
    refine V.iload_n (i := 3) dX7_readInto_9 rfl rfl ?_
    refine V.bipush dX7_readInto_10 bc_60 ?_
    refine V.icmp_ge (tgt := 42) dX7_readInto_12 rfl (fun c12 => ?_) (fun c12 => ?_)
    · refine V.iload_n (i := 2) dX7_readInto_42 rfl rfl ?_
      refine V.zret dX7_readInto_43 (by decide) (Nat.le_of_ble_eq_true rfl) (Nat.le_of_ble_eq_true rfl) ?_
      exact b2_ret0 (by rw [he]; simp) (hp s1 hri)
    · refine V.iload_n (i := 2) dX7_readInto_15 rfl rfl ?_
      refine V.if_eqT (tgt := 42) dX7_readInto_16 rfl rfl ?_
      refine V.iload_n (i := 2) dX7_readInto_42 rfl rfl ?_
      refine V.zret dX7_readInto_43 (by decide) (Nat.le_of_ble_eq_true rfl) (Nat.le_of_ble_eq_true rfl) ?_
      exact b2_ret0 (by rw [he]; simp) (hp s1 hri)
  have loop : ∀ m k a s1 G1, m + k = 60 → 3 * k ≤ a → a ≤ 64 → rdF N0 s s1 → nTp G1 = nTp G → TP N0 s1 P G1 a → TT N0 s1 t w g G1 → R = rd (m + 1) G1 a → V E X RX7 "readInto" cX7_readInto 4 (some .boolean) 6 0 0 (QM E X post 0 0) s1 0 0 9 [some (.ref (P 0 6)), some (.ref t), some (.int (nI 1)), some (.int (nI k))] [] := by
    intro m
    induction m with
    | zero =>
      intro k a s1 G1 hk ha ha2 f e1 hP1 hT1 hr
      exfalso
      omega
    | succ m ih =>
      intro k a s1 G1 hk ha ha2 f e1 hP1 hT1 hr
      have ht1 := hP1.2.1
      have hz : nTp G1 ≤ a → post (some (.int (nI 1))) s1 := fun q => by
        rw [rd_end q] at hr
        exact b2_ret1 (by rw [hr]) (hp s1 ⟨f, fun _ => by rw [hr]; exact hT1, fun e he => by rw [hr] at he; cases he⟩)
      refine V.iload_n (i := 3) dX7_readInto_9 rfl rfl ?_
      refine V.bipush dX7_readInto_10 bc_60 ?_
      refine V.icmp_geF (tgt := 42) dX7_readInto_12 rfl (nI_ge (by omega) (by decide)) ?_
      refine V.iload_n (i := 2) dX7_readInto_15 rfl rfl ?_
      refine V.if_eqF (tgt := 42) dX7_readInto_16 rfl (by decide) ?_
      refine V.aload_n (i := 0) dX7_readInto_19 rfl rfl ?_
      refine V.geti dX7_readInto_20 fl_X7_19 rfl ht1 ?_
      refine V.as _ hP1.2.2.2.2.2.1 ?_
      refine V.aload_n (i := 0) dX7_readInto_23 rfl rfl ?_
      refine V.geti dX7_readInto_24 fl_X7_15 rfl ht1 ?_
      refine V.as _ hP1.2.2.2.2.1 ?_
      refine V.icmp_ge (tgt := 42) dX7_readInto_27 rfl (fun c27 => ?_) (fun c27 => ?_)
      · rw [nI_leI (by omega) (by omega)] at c27
        refine V.iload_n (i := 2) dX7_readInto_42 rfl rfl ?_
        refine V.zret dX7_readInto_43 (by decide) (Nat.le_of_ble_eq_true rfl) (Nat.le_of_ble_eq_true rfl) ?_
        exact hz c27
      · rw [nI_leI (by omega) (by omega)] at c27
        refine V.aload_n (i := 0) dX7_readInto_30 rfl rfl ?_
        refine V.aload_n (i := 1) dX7_readInto_31 rfl rfl ?_
        refine V.cv1s (ci := 7) dX7_readInto_32 lk_X7_22 (by decide) rfl ht1 (k_readRow hP1 (by omega) hT1 (fun s h => ⟨rfl, h⟩)) (by decide) (by decide) (Nat.le_of_ble_eq_true rfl) (Nat.le_of_ble_eq_true rfl) (Nat.le_of_ble_eq_true rfl) (fun s32 h32 => ?_)
        refine V.istore_n2 (by decide) dX7_readInto_35 ?_
        refine V.iinc3 (by decide) dX7_readInto_36 (inc1 _) ?_
        refine V.goto (tgt := 9) dX7_readInto_39 rfl ?_
        cases hg : gd G1 a with
        | false =>
          rw [b2F (p := false = true) (by decide)]
          have hr2 := hr.trans (rd_bad (by omega) hg)
          have q := h32
          unfold RW at q
          rw [hg] at q
          exact bad s32 (k + 1) (rowEnd G1 a) (by rw [hr2]) ⟨f.trans q.1, fun z => (by rw [hr2] at z; cases z), fun e he => (by rw [hr2] at he; cases he; exact q.2.1.2.2.2.2.2.1)⟩ q.2.1.2.1
        | true =>
          rw [b2T (p := true = true) rfl]
          have hr2 := hr.trans (rd_go (by omega) hg)
          have ad := gd_adv hg
          have q := h32
          unfold RW at q
          rw [hg] at q
          have e19 : rowTells G1 a (rowEnd G1 a) 19 = G1 19 := rowTells_row _ _ _ _ (by decide) (by decide) (by decide)
          exact ih (k + 1) (rowEnd G1 a + 1) s32 (rowTells G1 a (rowEnd G1 a)) (by omega) (by omega) (by omega) (f.trans q.1) ((gN_e e19 0).trans e1) (q.2.1.rows e19 (rowTells_row _ _ _ _ (by decide) (by decide) (by decide))) q.2.2 hr2
  refine V.aload_n (i := 0) dX7_readInto_0 rfl rfl ?_
  refine V.iconst dX7_readInto_1 ic_0 ?_
  refine V.puti dX7_readInto_2 fl_X7_19 rfl rfl ht8 ?_
  refine V.sts (σ' := wI s 8 (P 0 6) 2 (nI 0)) rfl ?_
  refine V.iconst dX7_readInto_5 ic_1 ?_
  refine V.istore_n2 (by decide) dX7_readInto_6 ?_
  refine V.iconst dX7_readInto_7 ic_0 ?_
  refine V.istore_n3 (by decide) dX7_readInto_8 ?_
  exact loop 60 0 0 _ G rfl (by omega) (by omega) rdF.at rfl h hT.go hR.symm
end TREATY

