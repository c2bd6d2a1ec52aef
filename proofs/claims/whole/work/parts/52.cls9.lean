/-! ===== the class: the tape is fed, owners joined, weeks of rest ===== -/
section CLS9
variable {E : VE} {σ : Sg} {G : GS} {x : Nat} {P : PT} {post : Option Value → Sg → Prop}
def putS (σ : Sg) (P : PT) (n : Nat) (b : Int32) : Sg := wI (wI σ 22 (P 0 7) n b) 8 (P 0 6) 1 (nI (n + 1))
set_option maxRecDepth 100000 in
theorem k_put (hR : Rp σ x P G) (hI : Inv G) (b : Int32) (hn : nTp G < 60) (hp : post none (putS σ P (nTp G) b)) : MX7_put E 1 0 0 [.ref (P 0 6), .int b] σ post := by
  refine MA.of RX7 "put" [some (.ref (P 0 6)), some (.int b)] rfl rfl rfl (catAll rfl) (Nat.le_of_ble_eq_true rfl) rfl (fun X => ?_)
  have h1 := hI.tpN
  refine V.aload_n (i := 0) dX7_put_0 rfl rfl ?_
  refine V.getS dX7_put_1 fl_X7_9 rfl hR.F.tape.2 hR.F.bytes.1 ?_
  refine V.aload_n (i := 0) dX7_put_4 rfl rfl ?_
  refine V.geti dX7_put_5 fl_X7_15 rfl hR.F.tape.2 ?_
  refine V.as _ (hR.S.tpN.trans h1.1) ?_
  refine V.iload_n (i := 1) dX7_put_8 rfl rfl ?_
  refine V.iast (t := 22) dX7_put_9 hR.F.bytes.2 (by decide) rfl rfl (show _ < 60 from hn) (by decide) ?_
  refine V.aload_n (i := 0) dX7_put_10 rfl rfl ?_
  refine V.dup dX7_put_11 rfl ?_
  refine V.geti dX7_put_12 fl_X7_15 rfl hR.F.tape.2 ?_
  refine V.as (nI (nTp G)) (by rw [sI_wI, if_neg (by simp)]; exact hR.S.tpN.trans h1.1) ?_
  refine V.iconst dX7_put_15 ic_1 ?_
  refine V.iadd dX7_put_16 ?_
  refine V.as _ (nI_add _ _) ?_
  refine V.puti dX7_put_17 fl_X7_15 rfl rfl hR.F.tape.2 ?_
  refine V.vret dX7_put_20 (Nat.le_of_ble_eq_true rfl) (Nat.le_of_ble_eq_true rfl) ?_
  exact hp
set_option maxRecDepth 100000 in
theorem k_feed (hR : Rp σ x P G) (hI : Inv G) (b : Int32) (hp : PU x σ (s_feed G b) post) : MX10_feed E 2 0 0 [.ref x, .int b] σ post := by
  refine MA.of RX10 "feed" [some (.ref x), some (.int b)] rfl rfl rfl (catAll rfl) (Nat.le_of_ble_eq_true rfl) rfl (fun X => ?_)
  have h1 := hI.tpN
  refine V.iload_n (i := 1) dX10_feed_0 rfl rfl ?_
  refine V.sipush dX10_feed_1 sc_256 ?_
  refine V.cs2D dX10_feed_4 lk_X10_96 (k_isBelowN _ 256 (by decide) ⟨rfl, rfl⟩) (by decide) (by decide) (Nat.le_of_ble_eq_true rfl) (Nat.le_of_ble_eq_true rfl) (Nat.le_of_ble_eq_true rfl) ?_
  refine V.ifb_ne (tgt := 16) dX10_feed_7 rfl (fun c7 => ?_) (fun c7 => ?_)
  · refine V.aload_n (i := 0) dX10_feed_16 rfl rfl ?_
    refine V.getS dX10_feed_17 fl_X10_43 rfl hR.F.x hR.F.tape.1 ?_
    refine V.geti dX10_feed_20 fl_X10_178 rfl hR.F.tape.2 ?_
    refine V.as _ (hR.S.tpN.trans h1.1) ?_
    refine V.bipush dX10_feed_23 bc_60 ?_
    refine V.icmp_lt (tgt := 34) dX10_feed_25 rfl (fun c25 => ?_) (fun c25 => ?_)
    · rw [nI_ltI (by omega) (by decide)] at c25
      refine V.aload_n (i := 0) dX10_feed_34 rfl rfl ?_
      refine V.getS dX10_feed_35 fl_X10_43 rfl hR.F.x hR.F.tape.1 ?_
      refine V.iload_n (i := 1) dX10_feed_38 rfl rfl ?_
      refine V.cv1U (ci := 7) dX10_feed_39 lk_X10_181 (by decide) rfl hR.F.tape.2 (k_put hR hI b c25 ⟨rfl, rfl⟩) (by decide) (by decide) (Nat.le_of_ble_eq_true rfl) (Nat.le_of_ble_eq_true rfl) (Nat.le_of_ble_eq_true rfl) ?_
      refine V.aload_n (i := 0) dX10_feed_42 rfl rfl ?_
      refine V.getS dX10_feed_43 fl_X10_43 rfl hR.F.x hR.F.tape.1 ?_
      refine V.geti dX10_feed_46 fl_X10_178 rfl hR.F.tape.2 ?_
      refine V.as (nI (nTp G + 1)) (by unfold putS; rw [sI_wI, if_pos ⟨rfl, rfl, rfl⟩]) ?_
      refine V.iret dX10_feed_49 (Nat.le_of_ble_eq_true rfl) (Nat.le_of_ble_eq_true rfl) ?_
      refine pu hp ((if_pos (by omega)).trans (if_neg (by omega))) (hR.plain ((frm.wI rfl).trans (frm.wI rfl)) (fun r hr => (osc_u2 rfl hr).trans (osc_u2 rfl hr)) ?_) rfl
      unfold putS
      have h := hR.S
      exact ⟨(by simpa [sI_wI, sI_wR, sI_wA, u2] using h.shipN), (by simpa [sI_wI, sI_wR, sI_wA, u2] using h.chN), (by simpa [sI_wI, sI_wR, sI_wA, u2] using h.caN), (by simpa [sI_wI, sI_wR, sI_wA, u2] using h.lkN), (by simpa [sI_wI, sI_wR, sI_wA, u2] using h.trN), (by simpa [sI_wI, sI_wR, sI_wA, u2] using h.day), (by simpa [sI_wI, sI_wR, sI_wA, u2] using h.mon), (by simpa [sI_wI, sI_wR, sI_wA, u2] using h.drN), (by simpa [sI_wI, sI_wR, sI_wA, u2] using h.wtN), (by simpa [sI_wI, sI_wR, sI_wA, u2] using h.wdN), (by simpa [sI_wI, sI_wR, sI_wA, u2] using h.tpN), (by intro j hj; rw [sI_wI, if_neg (by simp), sI_wI]; show _ = u2 G 20 (nTp G) b 20 j; rw [u2_at]; by_cases q : j = nTp G <;> simp [q, h.tp j hj]), (by simpa [sI_wI, sI_wR, sI_wA, u2] using h.wt), (by simpa [sI_wI, sI_wR, sI_wA, u2] using h.fd)⟩
    · rw [nI_ltI (by omega) (by decide)] at c25
      refine V.aload_n (i := 0) dX10_feed_28 rfl rfl ?_
      refine V.iconst dX10_feed_29 ic_4 ?_
      refine V.cv1D (ci := 10) dX10_feed_30 lk_X10_82 (by decide) rfl hR.F.x (k_finding hR _ (by decide) ⟨rfl, rfl⟩) (by decide) (by decide) (Nat.le_of_ble_eq_true rfl) (Nat.le_of_ble_eq_true rfl) (Nat.le_of_ble_eq_true rfl) ?_
      refine V.iret dX10_feed_33 (Nat.le_of_ble_eq_true rfl) (Nat.le_of_ble_eq_true rfl) ?_
      exact puF hp ((if_pos (by omega)).trans (if_pos (by omega))) hR rfl
  · refine V.aload_n (i := 0) dX10_feed_10 rfl rfl ?_
    refine V.iconst dX10_feed_11 ic_1 ?_
    refine V.cv1D (ci := 10) dX10_feed_12 lk_X10_82 (by decide) rfl hR.F.x (k_finding hR _ (by decide) ⟨rfl, rfl⟩) (by decide) (by decide) (Nat.le_of_ble_eq_true rfl) (Nat.le_of_ble_eq_true rfl) (Nat.le_of_ble_eq_true rfl) ?_
    refine V.iret dX10_feed_15 (Nat.le_of_ble_eq_true rfl) (Nat.le_of_ble_eq_true rfl) ?_
    exact puF hp (if_neg (by omega)) hR rfl
/-- joined: the marks of the first k owners -/
def jnS (σ : Sg) (d : Nat) (kept gone : Int32) : Nat → Sg
  | 0 => σ
  | k + 1 => if sI σ 20 d k = gone then wI (jnS σ d kept gone k) 20 d k kept else jnS σ d kept gone k
theorem jnS_at (d : Nat) (kept gone : Int32) : ∀ k j, sI (jnS σ d kept gone k) 20 d j = if j < k ∧ sI σ 20 d j = gone then kept else sI σ 20 d j
  | 0, j => by rw [if_neg (by omega)]; rfl
  | k + 1, j => by
    have ih := jnS_at d kept gone k j
    unfold jnS
    by_cases q : sI σ 20 d k = gone
    · rw [if_pos q, sI_wI]
      by_cases e : j = k
      · subst e
        rw [if_pos ⟨rfl, rfl, rfl⟩, if_pos ⟨by omega, q⟩]
      · rw [if_neg (fun z => e z.2.2), ih]
        by_cases r : j < k ∧ sI σ 20 d j = gone
        · rw [if_pos r, if_pos ⟨by omega, r.2⟩]
        · rw [if_neg r, if_neg (fun z => r ⟨by omega, z.2⟩)]
    · rw [if_neg q, ih]
      by_cases r : j < k ∧ sI σ 20 d j = gone
      · rw [if_pos r, if_pos ⟨by omega, r.2⟩]
      · rw [if_neg r, if_neg (fun z => r ⟨by
          by_cases e : j = k
          · exact absurd (e ▸ z.2) q
          · omega, z.2⟩)]
theorem jnS_f {SI SR : Nat → Nat → Bool} (d : Nat) (kept gone : Int32) (h : ∀ k, SI 20 k = false) : ∀ k, frk SI SR σ (jnS σ d kept gone k)
  | 0 => frk.rfl'
  | k + 1 => by
    unfold jnS
    split
    · exact (jnS_f d kept gone h k).trans (frk.wI (h k))
    · exact jnS_f d kept gone h k
theorem jnS_G (d : Nat) (kept gone : Int32) : ∀ k, sG (jnS σ d kept gone k) = sG σ
  | 0 => rfl
  | k + 1 => by
    unfold jnS
    split
    · exact jnS_G d kept gone k
    · exact jnS_G d kept gone k
set_option maxRecDepth 100000 in
theorem k_join (hR : Rp σ x P G) (hI : Inv G) (a b : Nat) (ha : a < 10) (hb : b < 10) (hp : post none (wI (jnS σ (P 0 2) (sI σ 20 (P 0 2) a) (sI σ 20 (P 0 2) b) 10) 4 (P 0 1) 1 (nI (nWd G + 1)))) : MX3_join E 1 0 0 [.ref (P 0 1), .int (nI a), .int (nI b)] σ post := by
  refine MA.of RX3 "join" [some (.ref (P 0 1)), some (.int (nI a)), some (.int (nI b)), none, none, none] rfl rfl rfl (catAll rfl) (Nat.le_of_ble_eq_true rfl) rfl (fun X => ?_)
  have hF : ∀ k, FX (jnS σ (P 0 2) (sI σ 20 (P 0 2) a) (sI σ 20 (P 0 2) b) k) x P := fun k => hR.F.k (jnS_f (SI := fun t _ => decide (t ≠ 20)) (SR := fun _ _ => true) _ _ _ (fun _ => rfl) k) (fun _ => rfl) rfl rfl (fun _ => rfl)
  have hw : ∀ k, sI (jnS σ (P 0 2) (sI σ 20 (P 0 2) a) (sI σ 20 (P 0 2) b) k) 4 (P 0 1) 1 = nI (nWd G) := fun k => ((jnS_f (SI := fun t _ => decide (t ≠ 20)) (SR := fun _ _ => true) _ _ _ (fun _ => rfl) k).num _ hR.F.owners.2 (by decide) rfl).trans (hR.S.wdN.trans hI.wdN.1)
  generalize hk : sI σ 20 (P 0 2) a = kept at *
  generalize hg : sI σ 20 (P 0 2) b = gone at *
  have loop : ∀ m k, m + k = 10 → V E X RX3 "join" cX3_join 6 none 1 0 0 (QM E X post 0 0) (jnS σ (P 0 2) kept gone k) 0 0 18 [some (.ref (P 0 1)), some (.int (nI a)), some (.int (nI b)), some (.int kept), some (.int gone), some (.int (nI k))] [] := by
    intro m
    induction m with
    | zero =>
      intro k hk
      rw [show k = 10 by omega]
      refine V.iload (i := 5) dX3_join_18 rfl ?_
      refine V.bipush dX3_join_20 bc_10 ?_
      refine V.icmp_geT (tgt := 51) dX3_join_22 rfl (by decide) ?_
      refine V.aload_n (i := 0) dX3_join_51 rfl rfl ?_
      refine V.dup dX3_join_52 rfl ?_
      refine V.geti dX3_join_53 fl_X3_15 rfl (hF _).owners.2 ?_
      refine V.as _ (hw _) ?_
      refine V.iconst dX3_join_56 ic_1 ?_
      refine V.iadd dX3_join_57 ?_
      refine V.as _ (nI_add _ _) ?_
      refine V.puti dX3_join_58 fl_X3_15 rfl rfl (hF _).owners.2 ?_
      refine V.vret dX3_join_61 (Nat.le_of_ble_eq_true rfl) (Nat.le_of_ble_eq_true rfl) ?_
      exact hp
    | succ m ih =>
      intro k hk
      refine V.iload (i := 5) dX3_join_18 rfl ?_
      refine V.bipush dX3_join_20 bc_10 ?_
      refine V.icmp_geF (tgt := 51) dX3_join_22 rfl (nI_ge (by omega) (by decide)) ?_
      refine V.aload_n (i := 0) dX3_join_25 rfl rfl ?_
      refine V.getS dX3_join_26 fl_X3_9 rfl (hF _).owners.2 (hF _).group.1 ?_
      refine V.iload (i := 5) dX3_join_29 rfl ?_
      refine V.iald (t := 20) dX3_join_31 (hF _).group.2 (by decide) rfl rfl (show _ < 10 from (by omega)) (by decide) ?_
      refine V.as (sI σ 20 (P 0 2) k) (by rw [jnS_at, if_neg (by omega)]) ?_
      refine V.iload (i := 4) dX3_join_32 rfl ?_
      refine V.icmp_ne (tgt := 45) dX3_join_34 rfl (fun c34 => ?_) (fun c34 => ?_)
      · have hs := ih (k + 1) (by omega); rw [jnS, if_neg c34] at hs
        refine V.iinc5 (by decide) dX3_join_45 (inc1 _) ?_
        refine V.goto (tgt := 18) dX3_join_48 rfl ?_
        exact hs
      · have hs := ih (k + 1) (by omega); rw [jnS, if_pos (by simpa using c34)] at hs
        refine V.aload_n (i := 0) dX3_join_37 rfl rfl ?_
        refine V.getS dX3_join_38 fl_X3_9 rfl (hF _).owners.2 (hF _).group.1 ?_
        refine V.iload (i := 5) dX3_join_41 rfl ?_
        refine V.iload_n (i := 3) dX3_join_43 rfl rfl ?_
        refine V.iast (t := 20) dX3_join_44 (hF _).group.2 (by decide) rfl rfl (show _ < 10 from (by omega)) (by decide) ?_
        refine V.iinc5 (by decide) dX3_join_45 (inc1 _) ?_
        refine V.goto (tgt := 18) dX3_join_48 rfl ?_
        exact hs
  refine V.aload_n (i := 0) dX3_join_0 rfl rfl ?_
  refine V.getS dX3_join_1 fl_X3_9 rfl hR.F.owners.2 hR.F.group.1 ?_
  refine V.iload_n (i := 1) dX3_join_4 rfl rfl ?_
  refine V.iald (t := 20) dX3_join_5 hR.F.group.2 (by decide) rfl rfl (show _ < 10 from ha) (by decide) ?_
  refine V.as _ hk ?_
  refine V.istore_n3 (by decide) dX3_join_6 ?_
  refine V.aload_n (i := 0) dX3_join_7 rfl rfl ?_
  refine V.getS dX3_join_8 fl_X3_9 rfl hR.F.owners.2 hR.F.group.1 ?_
  refine V.iload_n (i := 2) dX3_join_11 rfl rfl ?_
  refine V.iald (t := 20) dX3_join_12 hR.F.group.2 (by decide) rfl rfl (show _ < 10 from hb) (by decide) ?_
  refine V.as _ hg ?_
  refine V.istore4 (by decide) dX3_join_13 ?_
  refine V.iconst dX3_join_15 ic_0 ?_
  refine V.istore5 (by decide) dX3_join_16 ?_
  exact loop 10 0 rfl
set_option maxRecDepth 100000 in
theorem k_one (hR : Rp σ x P G) (hI : Inv G) (a b : Int32) (hp : PU x σ (s_one G a b) post) : MX10_one E 2 0 0 [.ref x, .int a, .int b] σ post := by
  refine MA.of RX10 "one" [some (.ref x), some (.int a), some (.int b)] rfl rfl rfl (catAll rfl) (Nat.le_of_ble_eq_true rfl) rfl (fun X => ?_)
  have h1 := hI.wdN
  refine V.iload_n (i := 1) dX10_one_0 rfl rfl ?_
  refine V.bipush dX10_one_1 bc_10 ?_
  refine V.cs2D dX10_one_3 lk_X10_96 (k_isBelowN _ 10 (by decide) ⟨rfl, rfl⟩) (by decide) (by decide) (Nat.le_of_ble_eq_true rfl) (Nat.le_of_ble_eq_true rfl) (Nat.le_of_ble_eq_true rfl) ?_
  refine V.ifb_eq (tgt := 23) dX10_one_6 rfl (fun c6 => ?_) (fun c6 => ?_)
  · refine V.aload_n (i := 0) dX10_one_23 rfl rfl ?_
    refine V.iconst dX10_one_24 ic_1 ?_
    refine V.cv1D (ci := 10) dX10_one_25 lk_X10_82 (by decide) rfl hR.F.x (k_finding hR _ (by decide) ⟨rfl, rfl⟩) (by decide) (by decide) (Nat.le_of_ble_eq_true rfl) (Nat.le_of_ble_eq_true rfl) (Nat.le_of_ble_eq_true rfl) ?_
    refine V.iret dX10_one_28 (Nat.le_of_ble_eq_true rfl) (Nat.le_of_ble_eq_true rfl) ?_
    exact puF hp (if_neg (by rintro ⟨z1, z2, z3⟩; first | exact z3 (by simpa using c20) | omega)) hR rfl
  · obtain ⟨i, hi, rfl⟩ := idxOf c6
    refine V.iload_n (i := 2) dX10_one_9 rfl rfl ?_
    refine V.bipush dX10_one_10 bc_10 ?_
    refine V.cs2D dX10_one_12 lk_X10_96 (k_isBelowN _ 10 (by decide) ⟨rfl, rfl⟩) (by decide) (by decide) (Nat.le_of_ble_eq_true rfl) (Nat.le_of_ble_eq_true rfl) (Nat.le_of_ble_eq_true rfl) ?_
    refine V.ifb_eq (tgt := 23) dX10_one_15 rfl (fun c15 => ?_) (fun c15 => ?_)
    · refine V.aload_n (i := 0) dX10_one_23 rfl rfl ?_
      refine V.iconst dX10_one_24 ic_1 ?_
      refine V.cv1D (ci := 10) dX10_one_25 lk_X10_82 (by decide) rfl hR.F.x (k_finding hR _ (by decide) ⟨rfl, rfl⟩) (by decide) (by decide) (Nat.le_of_ble_eq_true rfl) (Nat.le_of_ble_eq_true rfl) (Nat.le_of_ble_eq_true rfl) ?_
      refine V.iret dX10_one_28 (Nat.le_of_ble_eq_true rfl) (Nat.le_of_ble_eq_true rfl) ?_
      exact puF hp (if_neg (by rintro ⟨z1, z2, z3⟩; first | exact z3 (by simpa using c20) | omega)) hR rfl
    · obtain ⟨j, hj, rfl⟩ := idxOf c15
      refine V.iload_n (i := 1) dX10_one_18 rfl rfl ?_
      refine V.iload_n (i := 2) dX10_one_19 rfl rfl ?_
      refine V.icmp_ne (tgt := 29) dX10_one_20 rfl (fun c20 => ?_) (fun c20 => ?_)
      · refine V.aload_n (i := 0) dX10_one_29 rfl rfl ?_
        refine V.getS dX10_one_30 fl_X10_18 rfl hR.F.x hR.F.owners.1 ?_
        refine V.geti dX10_one_33 fl_X10_123 rfl hR.F.owners.2 ?_
        refine V.as _ (hR.S.wdN.trans h1.1) ?_
        refine V.bipush dX10_one_36 bc_12 ?_
        refine V.icmp_lt (tgt := 47) dX10_one_38 rfl (fun c38 => ?_) (fun c38 => ?_)
        · rw [nI_ltI (by omega) (by decide)] at c38
          refine V.aload_n (i := 0) dX10_one_47 rfl rfl ?_
          refine V.getS dX10_one_48 fl_X10_18 rfl hR.F.x hR.F.owners.1 ?_
          refine V.iload_n (i := 1) dX10_one_51 rfl rfl ?_
          refine V.iload_n (i := 2) dX10_one_52 rfl rfl ?_
          refine V.cv2U (ci := 3) dX10_one_53 lk_X10_126 (by decide) rfl hR.F.owners.2 (k_join hR hI i j hi hj ⟨rfl, rfl⟩) (by decide) (by decide) (Nat.le_of_ble_eq_true rfl) (Nat.le_of_ble_eq_true rfl) (Nat.le_of_ble_eq_true rfl) ?_
          have f : frk (fun t k => decide (t ≠ 20) && !(decide (t = 4) && decide (k = 1))) (fun _ _ => true) σ (wI (jnS σ (P 0 2) (sI σ 20 (P 0 2) i) (sI σ 20 (P 0 2) j) 10) 4 (P 0 1) 1 (nI (nWd G + 1))) := (jnS_f _ _ _ (fun _ => rfl) 10).trans (frk.wI rfl)
          have hF := hR.F.k f (fun _ => rfl) rfl rfl (fun _ => rfl)
          refine V.aload_n (i := 0) dX10_one_56 rfl rfl ?_
          refine V.getS dX10_one_57 fl_X10_18 rfl hF.x hF.owners.1 ?_
          refine V.geti dX10_one_60 fl_X10_123 rfl hF.owners.2 ?_
          refine V.as (nI (nWd G + 1)) (by rw [sI_wI, if_pos ⟨rfl, rfl, rfl⟩]) ?_
          refine V.iret dX10_one_63 (Nat.le_of_ble_eq_true rfl) (Nat.le_of_ble_eq_true rfl) ?_
          refine pu (P := P) hp ((if_pos ⟨by omega, by omega, c20⟩).trans (if_neg (by omega))) ?_ (jnS_G _ _ _ 10)
          have hO : OW (wI (jnS σ (P 0 2) (sI σ 20 (P 0 2) i) (sI σ 20 (P 0 2) j) 10) 4 (P 0 1) 1 (nI (nWd G + 1))) P (u2 (u2 (u2 G 11 (nWd G) (nI i)) 12 (nWd G) (nI j)) 10 0 (nI (nWd G + 1))) := by
            intro c hc
            have e1 : nWd (u2 (u2 (u2 G 11 (nWd G) (nI i)) 12 (nWd G) (nI j)) 10 0 (nI (nWd G + 1))) = nWd G + 1 := tn_nI (by omega)
            have e2 : gN (u2 (u2 (u2 G 11 (nWd G) (nI i)) 12 (nWd G) (nI j)) 10 0 (nI (nWd G + 1))) 11 (nWd G) = i := by
              show tn (u2 G 11 (nWd G) (nI i) 11 (nWd G)) = i
              rw [u2_eq, tn_nI (by omega)]
            have e3 : gN (u2 (u2 (u2 G 11 (nWd G) (nI i)) 12 (nWd G) (nI j)) 10 0 (nI (nWd G + 1))) 12 (nWd G) = j := by
              show tn (u2 (u2 G 11 (nWd G) (nI i)) 12 (nWd G) (nI j) 12 (nWd G)) = j
              rw [u2_eq, tn_nI (by omega)]
            have e4 : ∀ c, grp (u2 (u2 (u2 G 11 (nWd G) (nI i)) 12 (nWd G) (nI j)) 10 0 (nI (nWd G + 1))) (nWd G) c = grp G (nWd G) c := grp_c _ (fun w hw => ⟨by
              show u2 G 11 (nWd G) (nI i) 11 w = _
              exact u2_ne (by omega), by
              show u2 (u2 G 11 (nWd G) (nI i)) 12 (nWd G) (nI j) 12 w = _
              rw [u2_ne (by omega)]; rfl⟩)
            have l1 := grp_lt hI _ (Nat.le_refl _) c hc
            have l2 := grp_lt hI _ (Nat.le_refl _) j hj
            rw [sI_wI, if_neg (by simp), jnS_at, e1, grp, e2, e3, e4, e4, e4, hR.O c hc, hR.O i hi, hR.O j hj]
            by_cases q : grp G (nWd G) c = grp G (nWd G) j
            · rw [if_pos ⟨hc, by rw [q]⟩, if_pos q]
            · rw [if_neg (fun z => q ((nI_eq (by omega) (by omega)).mp z.2)), if_neg q]
          have hS : SC (wI (jnS σ (P 0 2) (sI σ 20 (P 0 2) i) (sI σ 20 (P 0 2) j) 10) 4 (P 0 1) 1 (nI (nWd G + 1))) x P (u2 (u2 (u2 G 11 (nWd G) (nI i)) 12 (nWd G) (nI j)) 10 0 (nI (nWd G + 1))) := ⟨((f.num 1 hR.F.x (by decide) rfl).trans hR.S.shipN), ((f.num 2 hR.F.x (by decide) rfl).trans hR.S.chN), ((f.num 5 hR.F.x (by decide) rfl).trans hR.S.caN), ((f.num 7 hR.F.x (by decide) rfl).trans hR.S.lkN), ((f.num 9 hR.F.x (by decide) rfl).trans hR.S.trN), ((f.num 11 hR.F.x (by decide) rfl).trans hR.S.day), ((f.num 12 hR.F.x (by decide) rfl).trans hR.S.mon), ((f.num 13 hR.F.x (by decide) rfl).trans hR.S.drN), ((f.num 15 hR.F.x (by decide) rfl).trans hR.S.wtN), (by rw [sI_wI, if_pos ⟨rfl, rfl, rfl⟩]; rfl), ((f.num 1 hR.F.tape.2 (by decide) rfl).trans hR.S.tpN), (fun j hj => (f.num j hR.F.bytes.2 (by decide) rfl).trans (hR.S.tp j hj)), (fun j hj => (f.num j hR.F.wait.2 (by decide) rfl).trans (hR.S.wt j hj)), (fun j hj => (f.num j hR.F.fnds.2 (by decide) rfl).trans (hR.S.fd j hj))⟩
          exact ⟨(hR.F.k f (fun _ => rfl) rfl rfl (fun _ => rfl)), hS, hO, ⟨(SH_at.k (P := P) (G := G) hR.H hR.F f (fun _ => rfl) rfl), (SH_no.k (P := P) (G := G) hR.H hR.F f rfl rfl), (SH_kind.k (P := P) (G := G) hR.H hR.F f rfl rfl rfl), (SH_soc.k (P := P) (G := G) hR.H hR.F f rfl rfl rfl), (SH_built.k (P := P) (G := G) hR.H hR.F f rfl rfl rfl), (SH_lat.k (P := P) (G := G) hR.H hR.F f rfl rfl), (SH_week.k (P := P) (G := G) hR.H hR.F f rfl rfl), (SH_days.k (P := P) (G := G) hR.H hR.F f rfl rfl), (SH_rest.k (P := P) (G := G) hR.H hR.F f (fun _ => rfl) rfl rfl), (SH_berth.k (P := P) (G := G) hR.H hR.F f rfl rfl rfl rfl rfl), (SH_last.k (P := P) (G := G) hR.H hR.F f rfl rfl rfl rfl rfl rfl), (SH_since.k (P := P) (G := G) hR.H hR.F f rfl rfl rfl rfl), (SH_bans.k (P := P) (G := G) hR.H hR.F f rfl rfl rfl), (SH_chain.k (P := P) (G := G) hR.H hR.F f (fun _ => rfl) rfl rfl rfl rfl rfl rfl rfl rfl rfl)⟩, ⟨(CA_at.k (P := P) (G := G) hR.C hR.F f (fun _ => rfl) rfl), (CA_no.k (P := P) (G := G) hR.C hR.F f rfl rfl), (CA_ship.k (P := P) (G := G) hR.C hR.F f rfl rfl rfl), (CA_port.k (P := P) (G := G) hR.C hR.F f rfl rfl rfl), (CA_from_.k (P := P) (G := G) hR.C hR.F f rfl rfl rfl), (CA_over.k (P := P) (G := G) hR.C hR.F f rfl rfl rfl), (CA_held.k (P := P) (G := G) hR.C hR.F f rfl rfl rfl), (CA_lks.k (P := P) (G := G) hR.C hR.F f rfl rfl rfl rfl)⟩, ⟨(LO_at.k (P := P) (G := G) hR.L hR.F f (fun _ => rfl) rfl), (LO_call.k (P := P) (G := G) hR.L hR.F f rfl rfl rfl), (LO_by_.k (P := P) (G := G) hR.L hR.F f rfl rfl rfl), (LO_on_.k (P := P) (G := G) hR.L hR.F f rfl rfl rfl), (LO_flt.k (P := P) (G := G) hR.L hR.F f rfl rfl rfl), (LO_hold.k (P := P) (G := G) hR.L hR.F f rfl rfl rfl), (LO_chance.k (P := P) (G := G) hR.L hR.F f rfl rfl rfl)⟩, ⟨(TR_at.k (P := P) (G := G) hR.T hR.F f (fun _ => rfl) rfl), (TR_from_.k (P := P) (G := G) hR.T hR.F f rfl rfl rfl), (TR_wts.k (P := P) (G := G) hR.T hR.F f rfl rfl), (TR_grv.k (P := P) (G := G) hR.T hR.F f rfl rfl), (TR_lim.k (P := P) (G := G) hR.T hR.F f rfl rfl rfl), (TR_wt.k (P := P) (G := G) hR.T hR.F f (fun _ => rfl) rfl rfl), (TR_gr.k (P := P) (G := G) hR.T hR.F f (fun _ => rfl) rfl rfl)⟩, (hR.J.e rfl rfl)⟩
        · rw [nI_ltI (by omega) (by decide)] at c38
          refine V.aload_n (i := 0) dX10_one_41 rfl rfl ?_
          refine V.iconst dX10_one_42 ic_4 ?_
          refine V.cv1D (ci := 10) dX10_one_43 lk_X10_82 (by decide) rfl hR.F.x (k_finding hR _ (by decide) ⟨rfl, rfl⟩) (by decide) (by decide) (Nat.le_of_ble_eq_true rfl) (Nat.le_of_ble_eq_true rfl) (Nat.le_of_ble_eq_true rfl) ?_
          refine V.iret dX10_one_46 (Nat.le_of_ble_eq_true rfl) (Nat.le_of_ble_eq_true rfl) ?_
          exact puF hp ((if_pos ⟨by omega, by omega, c20⟩).trans (if_pos (by omega))) hR rfl
      · refine V.aload_n (i := 0) dX10_one_23 rfl rfl ?_
        refine V.iconst dX10_one_24 ic_1 ?_
        refine V.cv1D (ci := 10) dX10_one_25 lk_X10_82 (by decide) rfl hR.F.x (k_finding hR _ (by decide) ⟨rfl, rfl⟩) (by decide) (by decide) (Nat.le_of_ble_eq_true rfl) (Nat.le_of_ble_eq_true rfl) (Nat.le_of_ble_eq_true rfl) ?_
        refine V.iret dX10_one_28 (Nat.le_of_ble_eq_true rfl) (Nat.le_of_ble_eq_true rfl) ?_
        exact puF hp (if_neg (by rintro ⟨z1, z2, z3⟩; first | exact z3 (by simpa using c20) | omega)) hR rfl
/-- a week of rest as its days show it -/
def WK (σ : Sg) (w d : Nat) (D : Nat → Nat) : Prop := sT σ w = 5 ∧ sR σ 5 w 0 = some d ∧ sT σ d = 21 ∧ ∀ k, k < 7 → sI σ 21 d k = nI (D k) ∧ D k < 16777216
def dB (D : Nat → Nat) (h : Nat) : Bool := (D (h / 24)).testBit (h % 24)
theorem dB_day (D : Nat → Nat) (k : Nat) : fb_ct (dB D) (24 * k) + bitsN (D k) 24 = fb_ct (dB D) (24 * (k + 1)) := by
  rw [show 24 * (k + 1) = 24 * k + 24 by omega, fb_ct_split]
  congr 1
  exact fb_ct_cong (fun i hi => by unfold dB; rw [show (24 * k + i) / 24 = k by omega, show (24 * k + i) % 24 = i by omega])
set_option maxRecDepth 100000 in
theorem k_hoursOfRest {w d : Nat} {D : Nat → Nat} (hW : WK σ w d D) (hp : post (some (.int (nI (fb_ct (dB D) 168)))) σ) : MX4_hoursOfRest E 2 0 0 [.ref w] σ post := by
  refine MA.of RX4 "hoursOfRest" [some (.ref w), none, none] rfl rfl rfl (catAll rfl) (Nat.le_of_ble_eq_true rfl) rfl (fun X => ?_)
  have loop : ∀ m k, m + k = 7 → V E X RX4 "hoursOfRest" cX4_hoursOfRest 3 (some .int) 2 0 0 (QM E X post 0 0) σ 0 0 4 [some (.ref w), some (.int (nI (fb_ct (dB D) (24 * k)))), some (.int (nI k))] [] := by
    intro m
    induction m with
    | zero =>
      intro k hk
      rw [show k = 7 by omega]
      refine V.iload_n (i := 2) dX4_hoursOfRest_4 rfl rfl ?_
      refine V.bipush dX4_hoursOfRest_5 bc_7 ?_
      refine V.icmp_geT (tgt := 28) dX4_hoursOfRest_7 rfl (by decide) ?_
      refine V.iload_n (i := 1) dX4_hoursOfRest_28 rfl rfl ?_
      refine V.iret dX4_hoursOfRest_29 (Nat.le_of_ble_eq_true rfl) (Nat.le_of_ble_eq_true rfl) ?_
      exact hp
    | succ m ih =>
      intro k hk
      refine V.iload_n (i := 2) dX4_hoursOfRest_4 rfl rfl ?_
      refine V.bipush dX4_hoursOfRest_5 bc_7 ?_
      refine V.icmp_geF (tgt := 28) dX4_hoursOfRest_7 rfl (nI_ge (by omega) (by decide)) ?_
      refine V.iload_n (i := 1) dX4_hoursOfRest_10 rfl rfl ?_
      refine V.aload_n (i := 0) dX4_hoursOfRest_11 rfl rfl ?_
      refine V.getS dX4_hoursOfRest_12 fl_X4_9 rfl hW.1 hW.2.1 ?_
      refine V.iload_n (i := 2) dX4_hoursOfRest_15 rfl rfl ?_
      refine V.iald (t := 21) dX4_hoursOfRest_16 hW.2.2.1 (by decide) rfl rfl (show _ < 7 from (by omega)) (by decide) ?_
      refine V.as _ (hW.2.2.2 k (by omega)).1 ?_
      refine V.cs1D dX4_hoursOfRest_17 lk_X4_15 (k_bitCount _ (hW.2.2.2 k (by omega)).2 ⟨rfl, rfl⟩) (by decide) (by decide) (Nat.le_of_ble_eq_true rfl) (Nat.le_of_ble_eq_true rfl) (Nat.le_of_ble_eq_true rfl) ?_
      refine V.iadd dX4_hoursOfRest_20 ?_
      refine V.as (nI (fb_ct (dB D) (24 * (k + 1)))) (by rw [nI_add, dB_day]) ?_
      refine V.istore_n1 (by decide) dX4_hoursOfRest_21 ?_
      refine V.iinc2 (by decide) dX4_hoursOfRest_22 (inc1 _) ?_
      refine V.goto (tgt := 4) dX4_hoursOfRest_25 rfl ?_
      exact ih (k + 1) (by omega)
  refine V.iconst dX4_hoursOfRest_0 ic_0 ?_
  refine V.istore_n1 (by decide) dX4_hoursOfRest_1 ?_
  refine V.iconst dX4_hoursOfRest_2 ic_0 ?_
  refine V.istore_n2 (by decide) dX4_hoursOfRest_3 ?_
  exact loop 7 0 rfl
set_option maxRecDepth 100000 in
theorem k_restIn {w d : Nat} {D : Nat → Nat} (hW : WK σ w d D) (h : Nat) (hh : h < 168) (hp : post (some (.int (nI (if dB D h = true then 1 else 0)))) σ) : MX4_restIn E 1 0 0 [.ref w, .int (nI h)] σ post := by
  refine MA.of RX4 "restIn" [some (.ref w), some (.int (nI h))] rfl rfl rfl (catAll rfl) (Nat.le_of_ble_eq_true rfl) rfl (fun X => ?_)
  refine V.aload_n (i := 0) dX4_restIn_0 rfl rfl ?_
  refine V.getS dX4_restIn_1 fl_X4_9 rfl hW.1 hW.2.1 ?_
  refine V.iload_n (i := 1) dX4_restIn_4 rfl rfl ?_
  refine V.bipush dX4_restIn_5 bc_24 ?_
  refine V.idiv dX4_restIn_7 (by decide) ?_
  refine V.as _ (pk_div (by omega) (by decide) (by decide)) ?_
  refine V.iald (t := 21) dX4_restIn_8 hW.2.2.1 (by decide) rfl rfl (show _ < 7 from (by omega)) (by decide) ?_
  refine V.as _ (hW.2.2.2 _ (by omega)).1 ?_
  refine V.iload_n (i := 1) dX4_restIn_9 rfl rfl ?_
  refine V.bipush dX4_restIn_10 bc_24 ?_
  refine V.irem dX4_restIn_12 (by decide) ?_
  refine V.as _ (pk_rem (by omega) (by decide) (by decide)) ?_
  refine V.ishr dX4_restIn_13 ?_
  refine V.iconst dX4_restIn_14 ic_1 ?_
  refine V.iand dX4_restIn_15 ?_
  refine V.as _ (testBit_and1 (by have := (hW.2.2.2 (h / 24) (by omega)).2; omega) (by omega)) ?_
  refine V.iret dX4_restIn_16 (Nat.le_of_ble_eq_true rfl) (Nat.le_of_ble_eq_true rfl) ?_
  exact hp
def wrD (D : Nat → Nat) (h : Nat) : Bool := decide (fb_ct (fun j => dB D (h - 23 + j)) 24 < 10)
set_option maxRecDepth 100000 in
theorem k_firstWrong {w d : Nat} {D : Nat → Nat} (hW : WK σ w d D) (hp : post (some (.int (if fstOf (wrD D) 145 23 < 168 then nI (fstOf (wrD D) 145 23) else -1))) σ) : MX4_firstWrong E 2 0 0 [.ref w] σ post := by
  refine MA.of RX4 "firstWrong" [some (.ref w), none, none] rfl rfl rfl (catAll rfl) (Nat.le_of_ble_eq_true rfl) rfl (fun X => ?_)
  have hle : ∀ n, fb_ct (dB D) n ≤ n := fb_ct_le _
  have hmo : ∀ a b, a ≤ b → fb_ct (dB D) a ≤ fb_ct (dB D) b := fun a b h => fb_ct_mono _ h
  have loop : ∀ m h, m + h = 168 → (23 ≤ h → fstOf (wrD D) 145 23 = fstOf (wrD D) m h) → V E X RX4 "firstWrong" cX4_firstWrong 3 (some .int) 2 0 0 (QM E X post 0 0) σ 0 0 4 [some (.ref w), some (.int (nI (fb_ct (dB D) h - fb_ct (dB D) (h - 24)))), some (.int (nI h))] [] := by
    intro m
    induction m with
    | zero =>
      intro h hh hf
      have hf := hf (by omega)
      rw [show h = 168 by omega] at hf ⊢
      refine V.iload_n (i := 2) dX4_firstWrong_4 rfl rfl ?_
      refine V.sipush dX4_firstWrong_5 sc_168 ?_
      refine V.icmp_geT (tgt := 56) dX4_firstWrong_8 rfl (by decide) ?_
      refine V.iconst dX4_firstWrong_56 ic_m1 ?_
      refine V.iret dX4_firstWrong_57 (Nat.le_of_ble_eq_true rfl) (Nat.le_of_ble_eq_true rfl) ?_
      rw [hf, if_neg (by unfold fstOf; omega)] at hp; exact hp
    | succ m ih =>
      intro h hh hf
      have s1 := fb_ct_succ (dB D) h
      have s2 := fb_ct_succ (dB D) (h - 24)
      have m1 := hmo (h - 24) h (by omega)
      have go : V E X RX4 "firstWrong" cX4_firstWrong 3 (some .int) 2 0 0 (QM E X post 0 0) σ 0 0 36 [some (.ref w), some (.int (nI (fb_ct (dB D) (h + 1) - fb_ct (dB D) (h + 1 - 24)))), some (.int (nI h))] [] := by
        have b1 := hle (h + 1)
        refine V.iload_n (i := 2) dX4_firstWrong_36 rfl rfl ?_
        refine V.bipush dX4_firstWrong_37 bc_23 ?_
        refine V.icmp_lt (tgt := 50) dX4_firstWrong_39 rfl (fun c39 => ?_) (fun c39 => ?_)
        · rw [nI_ltI (by omega) (by decide)] at c39
          refine V.iinc2 (by decide) dX4_firstWrong_50 (inc1 _) ?_
          refine V.goto (tgt := 4) dX4_firstWrong_53 rfl ?_
          first | exact ih (h + 1) (by omega) (fun _ => by rw [hf (by omega), fstOf_s, if_neg (by unfold wrD; simp; omega)]) | exact ih (h + 1) (by omega) (fun _ => by rw [show h + 1 = 23 by omega, show m = 145 by omega])
        · rw [nI_ltI (by omega) (by decide)] at c39
          have hc : fb_ct (fun j => dB D (h - 23 + j)) 24 = fb_ct (dB D) (h + 1) - fb_ct (dB D) (h + 1 - 24) := by
            have := fb_ct_split (dB D) (h - 23) 24
            rw [show h - 23 + 24 = h + 1 by omega] at this
            rw [show h + 1 - 24 = h - 23 by omega]
            omega
          refine V.iload_n (i := 1) dX4_firstWrong_42 rfl rfl ?_
          refine V.bipush dX4_firstWrong_43 bc_10 ?_
          refine V.icmp_ge (tgt := 50) dX4_firstWrong_45 rfl (fun c45 => ?_) (fun c45 => ?_)
          · rw [nI_leI (by decide) (by omega)] at c45
            refine V.iinc2 (by decide) dX4_firstWrong_50 (inc1 _) ?_
            refine V.goto (tgt := 4) dX4_firstWrong_53 rfl ?_
            first | exact ih (h + 1) (by omega) (fun _ => by rw [hf (by omega), fstOf_s, if_neg (by unfold wrD; simp; omega)]) | exact ih (h + 1) (by omega) (fun _ => by rw [show h + 1 = 23 by omega, show m = 145 by omega])
          · rw [nI_leI (by decide) (by omega)] at c45
            refine V.iload_n (i := 2) dX4_firstWrong_48 rfl rfl ?_
            refine V.iret dX4_firstWrong_49 (Nat.le_of_ble_eq_true rfl) (Nat.le_of_ble_eq_true rfl) ?_
            have hq := (hf (by omega)).trans ((fstOf_s _ _ _).trans (if_pos (by unfold wrD; simp; omega)))
            rw [hq, if_pos (by omega)] at hp
            exact hp
      refine V.iload_n (i := 2) dX4_firstWrong_4 rfl rfl ?_
      refine V.sipush dX4_firstWrong_5 sc_168 ?_
      refine V.icmp_geF (tgt := 56) dX4_firstWrong_8 rfl (nI_ge (by omega) (by decide)) ?_
      refine V.iload_n (i := 1) dX4_firstWrong_11 rfl rfl ?_
      refine V.aload_n (i := 0) dX4_firstWrong_12 rfl rfl ?_
      refine V.iload_n (i := 2) dX4_firstWrong_13 rfl rfl ?_
      refine V.cv1D (ci := 4) dX4_firstWrong_14 lk_X4_21 (by decide) rfl hW.1 (k_restIn hW h (by omega) ⟨rfl, rfl⟩) (by decide) (by decide) (Nat.le_of_ble_eq_true rfl) (Nat.le_of_ble_eq_true rfl) (Nat.le_of_ble_eq_true rfl) ?_
      refine V.iadd dX4_firstWrong_17 ?_
      refine V.as (nI (fb_ct (dB D) (h + 1) - fb_ct (dB D) (h - 24))) (by rw [nI_add]; congr 1; omega) ?_
      refine V.istore_n1 (by decide) dX4_firstWrong_18 ?_
      refine V.iload_n (i := 2) dX4_firstWrong_19 rfl rfl ?_
      refine V.bipush dX4_firstWrong_20 bc_24 ?_
      refine V.icmp_lt (tgt := 36) dX4_firstWrong_22 rfl (fun c22 => ?_) (fun c22 => ?_)
      · rw [nI_ltI (by omega) (by decide)] at c22
        rw [show fb_ct (dB D) (h - 24) = fb_ct (dB D) (h + 1 - 24) by congr 1; omega]
        exact go
      · rw [nI_ltI (by omega) (by decide)] at c22
        refine V.iload_n (i := 1) dX4_firstWrong_25 rfl rfl ?_
        refine V.aload_n (i := 0) dX4_firstWrong_26 rfl rfl ?_
        refine V.iload_n (i := 2) dX4_firstWrong_27 rfl rfl ?_
        refine V.bipush dX4_firstWrong_28 bc_24 ?_
        refine V.isub dX4_firstWrong_30 ?_
        refine V.as _ (pk_sub (by omega)) ?_
        refine V.cv1D (ci := 4) dX4_firstWrong_31 lk_X4_21 (by decide) rfl hW.1 (k_restIn hW (h - 24) (by omega) ⟨rfl, rfl⟩) (by decide) (by decide) (Nat.le_of_ble_eq_true rfl) (Nat.le_of_ble_eq_true rfl) (Nat.le_of_ble_eq_true rfl) ?_
        refine V.isub dX4_firstWrong_34 ?_
        refine V.as (nI (fb_ct (dB D) (h + 1) - fb_ct (dB D) (h + 1 - 24))) (by have := hmo (h - 24 + 1) (h + 1) (by omega); rw [pk_sub (by omega), show h + 1 - 24 = h - 24 + 1 by omega]; congr 1; omega) ?_
        refine V.istore_n1 (by decide) dX4_firstWrong_35 ?_
        exact go
  refine V.iconst dX4_firstWrong_0 ic_0 ?_
  refine V.istore_n1 (by decide) dX4_firstWrong_1 ?_
  refine V.iconst dX4_firstWrong_2 ic_0 ?_
  refine V.istore_n2 (by decide) dX4_firstWrong_3 ?_
  exact loop 168 0 rfl (fun z => absurd z (by decide))
/-- the week of a ship -/
def dG (G : GS) (i k : Nat) : Nat := gN G 34 (7 * i + k)
theorem wkOf (hR : Rp σ x P G) (hI : Inv G) {i : Nat} (hi : i < nSh G) : WK σ (P 3 i) (P 4 i) (dG G i) :=
  ⟨(hR.H.week i hi).2, (hR.H.days i hi).1, (hR.H.days i hi).2, fun k hk => by
    have h16 := hI.shN.2
    have h := hI.rst (7 * i + k) (by omega)
    exact ⟨(hR.H.rest i hi k hk).trans h.1, h.2⟩⟩
theorem dB_rst (G : GS) (i a n : Nat) : fb_ct (fun j => dB (dG G i) (a + j)) n = restCnt G i a n := rfl
theorem dB_rst0 (G : GS) (i n : Nat) : fb_ct (dB (dG G i)) n = restCnt G i 0 n := fb_ct_cong (fun k _ => by unfold rstB dB dG; rw [Nat.zero_add])
set_option maxRecDepth 100000 in
theorem k_tired (hR : Rp σ x P G) (hI : Inv G) (s w : Int32) (hp : PU x σ (s_tired G s w) post) : MX10_tired E 3 0 0 [.ref x, .int s, .int w] σ post := by
  refine MA.of RX10 "tired" [some (.ref x), some (.int s), some (.int w), none, none] rfl rfl rfl (catAll rfl) (Nat.le_of_ble_eq_true rfl) rfl (fun X => ?_)
  have h16 := hI.shN.2
  by_cases hs : 0 ≤ s.toInt ∧ s.toInt < nSh G
  · obtain ⟨i, hi, rfl⟩ := idxOf hs
    have hW := wkOf hR hI hi
    have hc : restCnt G i 0 168 ≤ 168 := fb_ct_le _ _
    have e0 := dB_rst0 G i 168
    by_cases q : fstOf (wrg G i) 145 23 < 168
    · skip
      refine V.aload_n (i := 0) dX10_tired_0 rfl rfl ?_
      refine V.iload_n (i := 1) dX10_tired_1 rfl rfl ?_
      refine V.cv1D (ci := 10) dX10_tired_2 lk_X10_92 (by decide) rfl hR.F.x (k_shipAtY hR hI i hi ⟨rfl, rfl⟩) (by decide) (by decide) (Nat.le_of_ble_eq_true rfl) (Nat.le_of_ble_eq_true rfl) (Nat.le_of_ble_eq_true rfl) ?_
      refine V.astore_n3 (by decide) dX10_tired_5 ?_
      refine V.aload_n (i := 3) dX10_tired_6 rfl rfl ?_
      refine V.ifnull dX10_tired_7 ?_
      refine V.iload_n (i := 2) dX10_tired_10 rfl rfl ?_
      refine V.iconst dX10_tired_11 ic_3 ?_
      refine V.cs2D dX10_tired_12 lk_X10_96 (k_isBelowN _ 3 (by decide) ⟨rfl, rfl⟩) (by decide) (by decide) (Nat.le_of_ble_eq_true rfl) (Nat.le_of_ble_eq_true rfl) (Nat.le_of_ble_eq_true rfl) ?_
      refine V.ifb_ne (tgt := 24) dX10_tired_15 rfl (fun c15 => ?_) (fun c15 => ?_)
      · obtain ⟨j, hj, rfl⟩ := idxOf c15
        have hz : s_tired G (nI i) (nI j) = (if j = 0 then (if fstOf (wrg G i) 145 23 < 168 then (nI (fstOf (wrg G i) 145 23), G) else fnd G 2) else if j = 1 then (b2 (restCnt G i 0 168 < 77), G) else (nI (restCnt G i 0 168), G)) := by unfold s_tired; rw [tn_nI (by omega), tn_nI (by omega), if_pos (by omega)]
        refine V.iload_n (i := 2) dX10_tired_24 rfl rfl ?_
        refine V.iconst dX10_tired_25 ic_2 ?_
        refine V.icmp_ne (tgt := 37) dX10_tired_26 rfl (fun c26 => ?_) (fun c26 => ?_)
        · rw [nI_eq (by omega) (by decide)] at c26
          refine V.iload_n (i := 2) dX10_tired_37 rfl rfl ?_
          refine V.iconst dX10_tired_38 ic_1 ?_
          refine V.icmp_ne (tgt := 60) dX10_tired_39 rfl (fun c39 => ?_) (fun c39 => ?_)
          · rw [nI_eq (by omega) (by decide)] at c39
            refine V.aload_n (i := 3) dX10_tired_60 rfl rfl ?_
            refine V.getS dX10_tired_61 fl_X10_281 rfl (hR.H.at i hi).2 (hR.H.week i hi).1 ?_
            refine V.cv0D (ci := 4) dX10_tired_64 lk_X10_294 (by decide) rfl (hR.H.week i hi).2 (k_firstWrong hW ⟨rfl, rfl⟩) (by decide) (by decide) (Nat.le_of_ble_eq_true rfl) (Nat.le_of_ble_eq_true rfl) (Nat.le_of_ble_eq_true rfl) ?_
            refine V.as (nI (fstOf (wrg G i) 145 23)) (if_pos q) ?_
            refine V.istore4 (by decide) dX10_tired_67 ?_
            refine V.iload (i := 4) dX10_tired_69 rfl ?_
            refine V.if_geT (tgt := 82) dX10_tired_71 rfl (Int32.not_lt.mp (nI_pos (by omega))) ?_
            refine V.iload (i := 4) dX10_tired_82 rfl ?_
            refine V.iret dX10_tired_84 (Nat.le_of_ble_eq_true rfl) (Nat.le_of_ble_eq_true rfl) ?_
            exact pu hp (hz.trans (by rw [if_pos (by omega), if_pos q])) hR rfl
          · rw [nI_eq (by omega) (by decide)] at c39
            refine V.aload_n (i := 3) dX10_tired_42 rfl rfl ?_
            refine V.getS dX10_tired_43 fl_X10_281 rfl (hR.H.at i hi).2 (hR.H.week i hi).1 ?_
            refine V.cv0D (ci := 4) dX10_tired_46 lk_X10_290 (by decide) rfl (hR.H.week i hi).2 (k_hoursOfRest hW ⟨rfl, rfl⟩) (by decide) (by decide) (Nat.le_of_ble_eq_true rfl) (Nat.le_of_ble_eq_true rfl) (Nat.le_of_ble_eq_true rfl) ?_
            refine V.as _ (congrArg nI e0) ?_
            refine V.bipush dX10_tired_49 bc_77 ?_
            refine V.icmp_ge (tgt := 58) dX10_tired_51 rfl (fun c51 => ?_) (fun c51 => ?_)
            · rw [nI_leI (by decide) (by omega)] at c51
              refine V.iconst dX10_tired_58 ic_0 ?_
              refine V.iret dX10_tired_59 (Nat.le_of_ble_eq_true rfl) (Nat.le_of_ble_eq_true rfl) ?_
              first | exact pv hp (hz.trans (by rw [if_neg (by omega), if_pos (by omega)])) (b2T (p := restCnt G i 0 168 < 77) (by omega)).symm hR rfl | exact pv hp (hz.trans (by rw [if_neg (by omega), if_pos (by omega)])) (b2F (p := restCnt G i 0 168 < 77) (by omega)).symm hR rfl
            · rw [nI_leI (by decide) (by omega)] at c51
              refine V.iconst dX10_tired_54 ic_1 ?_
              refine V.goto (tgt := 59) dX10_tired_55 rfl ?_
              refine V.iret dX10_tired_59 (Nat.le_of_ble_eq_true rfl) (Nat.le_of_ble_eq_true rfl) ?_
              first | exact pv hp (hz.trans (by rw [if_neg (by omega), if_pos (by omega)])) (b2T (p := restCnt G i 0 168 < 77) (by omega)).symm hR rfl | exact pv hp (hz.trans (by rw [if_neg (by omega), if_pos (by omega)])) (b2F (p := restCnt G i 0 168 < 77) (by omega)).symm hR rfl
        · rw [nI_eq (by omega) (by decide)] at c26
          refine V.aload_n (i := 3) dX10_tired_29 rfl rfl ?_
          refine V.getS dX10_tired_30 fl_X10_281 rfl (hR.H.at i hi).2 (hR.H.week i hi).1 ?_
          refine V.cv0D (ci := 4) dX10_tired_33 lk_X10_290 (by decide) rfl (hR.H.week i hi).2 (k_hoursOfRest hW ⟨rfl, rfl⟩) (by decide) (by decide) (Nat.le_of_ble_eq_true rfl) (Nat.le_of_ble_eq_true rfl) (Nat.le_of_ble_eq_true rfl) ?_
          refine V.as _ (congrArg nI e0) ?_
          refine V.iret dX10_tired_36 (Nat.le_of_ble_eq_true rfl) (Nat.le_of_ble_eq_true rfl) ?_
          exact pu hp (hz.trans (by rw [if_neg (by omega), if_neg (by omega)])) hR rfl
      · refine V.aload_n (i := 0) dX10_tired_18 rfl rfl ?_
        refine V.iconst dX10_tired_19 ic_1 ?_
        refine V.cv1D (ci := 10) dX10_tired_20 lk_X10_82 (by decide) rfl hR.F.x (k_finding hR _ (by decide) ⟨rfl, rfl⟩) (by decide) (by decide) (Nat.le_of_ble_eq_true rfl) (Nat.le_of_ble_eq_true rfl) (Nat.le_of_ble_eq_true rfl) ?_
        refine V.iret dX10_tired_23 (Nat.le_of_ble_eq_true rfl) (Nat.le_of_ble_eq_true rfl) ?_
        exact puF hp (if_neg (by omega)) hR rfl
    · skip
      refine V.aload_n (i := 0) dX10_tired_0 rfl rfl ?_
      refine V.iload_n (i := 1) dX10_tired_1 rfl rfl ?_
      refine V.cv1D (ci := 10) dX10_tired_2 lk_X10_92 (by decide) rfl hR.F.x (k_shipAtY hR hI i hi ⟨rfl, rfl⟩) (by decide) (by decide) (Nat.le_of_ble_eq_true rfl) (Nat.le_of_ble_eq_true rfl) (Nat.le_of_ble_eq_true rfl) ?_
      refine V.astore_n3 (by decide) dX10_tired_5 ?_
      refine V.aload_n (i := 3) dX10_tired_6 rfl rfl ?_
      refine V.ifnull dX10_tired_7 ?_
      refine V.iload_n (i := 2) dX10_tired_10 rfl rfl ?_
      refine V.iconst dX10_tired_11 ic_3 ?_
      refine V.cs2D dX10_tired_12 lk_X10_96 (k_isBelowN _ 3 (by decide) ⟨rfl, rfl⟩) (by decide) (by decide) (Nat.le_of_ble_eq_true rfl) (Nat.le_of_ble_eq_true rfl) (Nat.le_of_ble_eq_true rfl) ?_
      refine V.ifb_ne (tgt := 24) dX10_tired_15 rfl (fun c15 => ?_) (fun c15 => ?_)
      · obtain ⟨j, hj, rfl⟩ := idxOf c15
        have hz : s_tired G (nI i) (nI j) = (if j = 0 then (if fstOf (wrg G i) 145 23 < 168 then (nI (fstOf (wrg G i) 145 23), G) else fnd G 2) else if j = 1 then (b2 (restCnt G i 0 168 < 77), G) else (nI (restCnt G i 0 168), G)) := by unfold s_tired; rw [tn_nI (by omega), tn_nI (by omega), if_pos (by omega)]
        refine V.iload_n (i := 2) dX10_tired_24 rfl rfl ?_
        refine V.iconst dX10_tired_25 ic_2 ?_
        refine V.icmp_ne (tgt := 37) dX10_tired_26 rfl (fun c26 => ?_) (fun c26 => ?_)
        · rw [nI_eq (by omega) (by decide)] at c26
          refine V.iload_n (i := 2) dX10_tired_37 rfl rfl ?_
          refine V.iconst dX10_tired_38 ic_1 ?_
          refine V.icmp_ne (tgt := 60) dX10_tired_39 rfl (fun c39 => ?_) (fun c39 => ?_)
          · rw [nI_eq (by omega) (by decide)] at c39
            refine V.aload_n (i := 3) dX10_tired_60 rfl rfl ?_
            refine V.getS dX10_tired_61 fl_X10_281 rfl (hR.H.at i hi).2 (hR.H.week i hi).1 ?_
            refine V.cv0D (ci := 4) dX10_tired_64 lk_X10_294 (by decide) rfl (hR.H.week i hi).2 (k_firstWrong hW ⟨rfl, rfl⟩) (by decide) (by decide) (Nat.le_of_ble_eq_true rfl) (Nat.le_of_ble_eq_true rfl) (Nat.le_of_ble_eq_true rfl) ?_
            refine V.as (-1) (if_neg q) ?_
            refine V.istore4 (by decide) dX10_tired_67 ?_
            refine V.iload (i := 4) dX10_tired_69 rfl ?_
            refine V.if_geF (tgt := 82) dX10_tired_71 rfl (by decide) ?_
            refine V.aload_n (i := 0) dX10_tired_74 rfl rfl ?_
            refine V.iconst dX10_tired_75 ic_2 ?_
            refine V.cv1D (ci := 10) dX10_tired_76 lk_X10_82 (by decide) rfl hR.F.x (k_finding hR _ (by decide) ⟨rfl, rfl⟩) (by decide) (by decide) (Nat.le_of_ble_eq_true rfl) (Nat.le_of_ble_eq_true rfl) (Nat.le_of_ble_eq_true rfl) ?_
            refine V.goto (tgt := 84) dX10_tired_79 rfl ?_
            refine V.iret dX10_tired_84 (Nat.le_of_ble_eq_true rfl) (Nat.le_of_ble_eq_true rfl) ?_
            exact puF hp (hz.trans (by rw [if_pos (by omega), if_neg q])) hR rfl
          · rw [nI_eq (by omega) (by decide)] at c39
            refine V.aload_n (i := 3) dX10_tired_42 rfl rfl ?_
            refine V.getS dX10_tired_43 fl_X10_281 rfl (hR.H.at i hi).2 (hR.H.week i hi).1 ?_
            refine V.cv0D (ci := 4) dX10_tired_46 lk_X10_290 (by decide) rfl (hR.H.week i hi).2 (k_hoursOfRest hW ⟨rfl, rfl⟩) (by decide) (by decide) (Nat.le_of_ble_eq_true rfl) (Nat.le_of_ble_eq_true rfl) (Nat.le_of_ble_eq_true rfl) ?_
            refine V.as _ (congrArg nI e0) ?_
            refine V.bipush dX10_tired_49 bc_77 ?_
            refine V.icmp_ge (tgt := 58) dX10_tired_51 rfl (fun c51 => ?_) (fun c51 => ?_)
            · rw [nI_leI (by decide) (by omega)] at c51
              refine V.iconst dX10_tired_58 ic_0 ?_
              refine V.iret dX10_tired_59 (Nat.le_of_ble_eq_true rfl) (Nat.le_of_ble_eq_true rfl) ?_
              first | exact pv hp (hz.trans (by rw [if_neg (by omega), if_pos (by omega)])) (b2T (p := restCnt G i 0 168 < 77) (by omega)).symm hR rfl | exact pv hp (hz.trans (by rw [if_neg (by omega), if_pos (by omega)])) (b2F (p := restCnt G i 0 168 < 77) (by omega)).symm hR rfl
            · rw [nI_leI (by decide) (by omega)] at c51
              refine V.iconst dX10_tired_54 ic_1 ?_
              refine V.goto (tgt := 59) dX10_tired_55 rfl ?_
              refine V.iret dX10_tired_59 (Nat.le_of_ble_eq_true rfl) (Nat.le_of_ble_eq_true rfl) ?_
              first | exact pv hp (hz.trans (by rw [if_neg (by omega), if_pos (by omega)])) (b2T (p := restCnt G i 0 168 < 77) (by omega)).symm hR rfl | exact pv hp (hz.trans (by rw [if_neg (by omega), if_pos (by omega)])) (b2F (p := restCnt G i 0 168 < 77) (by omega)).symm hR rfl
        · rw [nI_eq (by omega) (by decide)] at c26
          refine V.aload_n (i := 3) dX10_tired_29 rfl rfl ?_
          refine V.getS dX10_tired_30 fl_X10_281 rfl (hR.H.at i hi).2 (hR.H.week i hi).1 ?_
          refine V.cv0D (ci := 4) dX10_tired_33 lk_X10_290 (by decide) rfl (hR.H.week i hi).2 (k_hoursOfRest hW ⟨rfl, rfl⟩) (by decide) (by decide) (Nat.le_of_ble_eq_true rfl) (Nat.le_of_ble_eq_true rfl) (Nat.le_of_ble_eq_true rfl) ?_
          refine V.as _ (congrArg nI e0) ?_
          refine V.iret dX10_tired_36 (Nat.le_of_ble_eq_true rfl) (Nat.le_of_ble_eq_true rfl) ?_
          exact pu hp (hz.trans (by rw [if_neg (by omega), if_neg (by omega)])) hR rfl
      · refine V.aload_n (i := 0) dX10_tired_18 rfl rfl ?_
        refine V.iconst dX10_tired_19 ic_1 ?_
        refine V.cv1D (ci := 10) dX10_tired_20 lk_X10_82 (by decide) rfl hR.F.x (k_finding hR _ (by decide) ⟨rfl, rfl⟩) (by decide) (by decide) (Nat.le_of_ble_eq_true rfl) (Nat.le_of_ble_eq_true rfl) (Nat.le_of_ble_eq_true rfl) ?_
        refine V.iret dX10_tired_23 (Nat.le_of_ble_eq_true rfl) (Nat.le_of_ble_eq_true rfl) ?_
        exact puF hp (if_neg (by omega)) hR rfl
  · skip
    refine V.aload_n (i := 0) dX10_tired_0 rfl rfl ?_
    refine V.iload_n (i := 1) dX10_tired_1 rfl rfl ?_
    refine V.cv1D (ci := 10) dX10_tired_2 lk_X10_92 (by decide) rfl hR.F.x (k_shipAtN hR hI s hs ⟨rfl, rfl⟩) (by decide) (by decide) (Nat.le_of_ble_eq_true rfl) (Nat.le_of_ble_eq_true rfl) (Nat.le_of_ble_eq_true rfl) ?_
    refine V.astore_n3N (by decide) dX10_tired_5 ?_
    refine V.aload_nN (i := 3) dX10_tired_6 rfl rfl ?_
    refine V.ifnullN (tgt := 18) dX10_tired_7 rfl ?_
    refine V.aload_n (i := 0) dX10_tired_18 rfl rfl ?_
    refine V.iconst dX10_tired_19 ic_1 ?_
    refine V.cv1D (ci := 10) dX10_tired_20 lk_X10_82 (by decide) rfl hR.F.x (k_finding hR _ (by decide) ⟨rfl, rfl⟩) (by decide) (by decide) (Nat.le_of_ble_eq_true rfl) (Nat.le_of_ble_eq_true rfl) (Nat.le_of_ble_eq_true rfl) ?_
    refine V.iret dX10_tired_23 (Nat.le_of_ble_eq_true rfl) (Nat.le_of_ble_eq_true rfl) ?_
    exact puF hp (if_neg (fun z => hs z.1)) hR rfl
end CLS9

