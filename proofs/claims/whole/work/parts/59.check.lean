/-! ===== the class: what waits is checked; a call begins ===== -/
section CHECK
variable {E : VE} {σ : Sg} {G : GS} {x : Nat} {P : PT} {post : Option Value → Sg → Prop}
set_option maxRecDepth 100000 in
theorem k_check (hR : Rp σ x P G) (hI : Inv G) (hp : PU x σ (s_check G) post) : MX10_check E 6 0 0 [.ref x] σ post := by
  refine MA.of RX10 "check" [some (.ref x), none, none, none] rfl rfl rfl (catAll rfl) (Nat.le_of_ble_eq_true rfl) rfl (fun X => ?_)
  have hw := hI.wtN
  have h16 := hI.shN.2
  have hI0 := inv_wt0 hI
  have hR0 : Rp (wI σ 11 x 15 (nI 0)) x P (u2 G 39 0 (nI 0)) := hR.plain (frm.wI rfl) (fun r hr => osc_u2 rfl hr) (by
    have h := hR.S
    exact ⟨(by simpa [sI_wI, sI_wR, sI_wA, u2] using h.shipN), (by simpa [sI_wI, sI_wR, sI_wA, u2] using h.chN), (by simpa [sI_wI, sI_wR, sI_wA, u2] using h.caN), (by simpa [sI_wI, sI_wR, sI_wA, u2] using h.lkN), (by simpa [sI_wI, sI_wR, sI_wA, u2] using h.trN), (by simpa [sI_wI, sI_wR, sI_wA, u2] using h.day), (by simpa [sI_wI, sI_wR, sI_wA, u2] using h.mon), (by simpa [sI_wI, sI_wR, sI_wA, u2] using h.drN), (by simpa [sI_wI, sI_wR, sI_wA, u2] using h.wtN), (by simpa [sI_wI, sI_wR, sI_wA, u2] using h.wdN), (by simpa [sI_wI, sI_wR, sI_wA, u2] using h.tpN), (by simpa [sI_wI, sI_wR, sI_wA, u2] using h.tp), (by simpa [sI_wI, sI_wR, sI_wA, u2] using h.wt), (by simpa [sI_wI, sI_wR, sI_wA, u2] using h.fd)⟩)
  have hS : s_check G = (if fstOf (chkB (u2 G 39 0 (nI 0))) (nWt G) 0 < nWt G then nI (1 + fstOf (chkB (u2 G 39 0 (nI 0))) (nWt G) 0) else nI 0, u2 G 39 0 (nI 0)) := rfl
  rw [hS] at hp
  generalize hG : u2 G 39 0 (nI 0) = G0 at *
  have hsh : nSh G0 = nSh G := by rw [← hG]; rfl
  have h40 : G0 40 = G 40 := by rw [← hG]; rfl
  have loop : ∀ m k s l3, m + k = nWt G → scr (wI σ 11 x 15 (nI 0)) s → fstOf (chkB G0) (nWt G) 0 = fstOf (chkB G0) m k → V E X RX10 "check" cX10_check 4 (some .int) 6 0 0 (QM E X post 0 0) s 0 0 12 [some (.ref x), some (.int (nI (nWt G))), some (.int (nI k)), l3] [] := by
    intro m
    induction m with
    | zero =>
      intro k s l3 hk hs hf
      have hR2 := hR0.scr hs
      refine V.iload_n (i := 2) dX10_check_12 rfl rfl ?_
      refine V.iload_n (i := 1) dX10_check_13 rfl rfl ?_
      refine V.icmp_geT (tgt := 51) dX10_check_14 rfl (nI_le (by omega) (by omega)) ?_
      refine V.iconst dX10_check_51 ic_0 ?_
      refine V.iret dX10_check_52 (Nat.le_of_ble_eq_true rfl) (Nat.le_of_ble_eq_true rfl) ?_
      exact pv hp rfl (by rw [hf, if_neg (by unfold fstOf; omega)]) hR2 hs.2
    | succ m ih =>
      intro k s l3 hk hs hf
      have hR2 := hR0.scr hs
      rw [fstOf_s] at hf
      by_cases hi : k < nSh G0
      · skip
        refine V.iload_n (i := 2) dX10_check_12 rfl rfl ?_
        refine V.iload_n (i := 1) dX10_check_13 rfl rfl ?_
        refine V.icmp_geF (tgt := 51) dX10_check_14 rfl (nI_ge (by omega) (by omega)) ?_
        refine V.aload_n (i := 0) dX10_check_17 rfl rfl ?_
        refine V.iload_n (i := 2) dX10_check_18 rfl rfl ?_
        refine V.cv1D (ci := 10) dX10_check_19 lk_X10_92 (by decide) rfl hR2.F.x (k_shipAtY hR2 hI0 k hi ⟨rfl, rfl⟩) (by decide) (by decide) (Nat.le_of_ble_eq_true rfl) (Nat.le_of_ble_eq_true rfl) (Nat.le_of_ble_eq_true rfl) ?_
        refine V.astore_n3 (by decide) dX10_check_22 ?_
        refine V.aload_n (i := 3) dX10_check_23 rfl rfl ?_
        refine V.ifnull dX10_check_24 ?_
        refine V.aload_n (i := 0) dX10_check_27 rfl rfl ?_
        refine V.aload_n (i := 3) dX10_check_28 rfl rfl ?_
        refine V.cv1s (ci := 10) dX10_check_29 lk_X10_258 (by decide) rfl hR2.F.x (k_riskOf hR2 hI0 k hi (fun s h => ⟨rfl, h⟩)) (by decide) (by decide) (Nat.le_of_ble_eq_true rfl) (Nat.le_of_ble_eq_true rfl) (Nat.le_of_ble_eq_true rfl) (fun s29 h29 => ?_)
        have hR3 := hR2.scr h29
        refine V.aload_n (i := 0) dX10_check_32 rfl rfl ?_
        refine V.getS dX10_check_33 fl_X10_51 rfl hR3.F.x hR3.F.wait.1 ?_
        refine V.iload_n (i := 2) dX10_check_36 rfl rfl ?_
        refine V.iald (t := 25) dX10_check_37 hR3.F.wait.2 (by decide) rfl rfl (show _ < 16 from (by omega)) (by decide) ?_
        refine V.as (G0 40 k) (hR3.S.wt k (by omega)) ?_
        refine V.icmp_eq (tgt := 45) dX10_check_38 rfl (fun c38 => ?_) (fun c38 => ?_)
        · refine V.iinc2 (by decide) dX10_check_45 (inc1 _) ?_
          refine V.goto (tgt := 12) dX10_check_48 rfl ?_
          exact ih (k + 1) _ _ (by omega) (hs.trans h29) (hf.trans (if_neg (by unfold chkB; rw [decide_eq_true_eq]; rintro (z | z); omega; exact z c38)))
        · have hc : chkB G0 k = true := decide_eq_true (Or.inr c38)
          refine V.iconst dX10_check_41 ic_1 ?_
          refine V.iload_n (i := 2) dX10_check_42 rfl rfl ?_
          refine V.iadd dX10_check_43 ?_
          refine V.as _ (nI_add _ _) ?_
          refine V.iret dX10_check_44 (Nat.le_of_ble_eq_true rfl) (Nat.le_of_ble_eq_true rfl) ?_
          exact pv hp rfl (by rw [hf.trans (if_pos hc), if_pos (by omega)]) hR3 (h29.2.trans hs.2)
      · have hc : chkB G0 k = true := decide_eq_true (Or.inl (by omega))
        refine V.iload_n (i := 2) dX10_check_12 rfl rfl ?_
        refine V.iload_n (i := 1) dX10_check_13 rfl rfl ?_
        refine V.icmp_geF (tgt := 51) dX10_check_14 rfl (nI_ge (by omega) (by omega)) ?_
        refine V.aload_n (i := 0) dX10_check_17 rfl rfl ?_
        refine V.iload_n (i := 2) dX10_check_18 rfl rfl ?_
        refine V.cv1D (ci := 10) dX10_check_19 lk_X10_92 (by decide) rfl hR2.F.x (k_shipAtN hR2 hI0 (nI k) (by rw [toI k (by omega)]; omega) ⟨rfl, rfl⟩) (by decide) (by decide) (Nat.le_of_ble_eq_true rfl) (Nat.le_of_ble_eq_true rfl) (Nat.le_of_ble_eq_true rfl) ?_
        refine V.astore_n3N (by decide) dX10_check_22 ?_
        refine V.aload_nN (i := 3) dX10_check_23 rfl rfl ?_
        refine V.ifnullN (tgt := 41) dX10_check_24 rfl ?_
        refine V.iconst dX10_check_41 ic_1 ?_
        refine V.iload_n (i := 2) dX10_check_42 rfl rfl ?_
        refine V.iadd dX10_check_43 ?_
        refine V.as _ (nI_add _ _) ?_
        refine V.iret dX10_check_44 (Nat.le_of_ble_eq_true rfl) (Nat.le_of_ble_eq_true rfl) ?_
        exact pv hp rfl (by rw [hf.trans (if_pos hc), if_pos (by omega)]) hR2 hs.2
  refine V.aload_n (i := 0) dX10_check_0 rfl rfl ?_
  refine V.geti dX10_check_1 fl_X10_321 rfl hR.F.x ?_
  refine V.as _ (hR.S.wtN.trans hw.1) ?_
  refine V.istore_n1 (by decide) dX10_check_4 ?_
  refine V.aload_n (i := 0) dX10_check_5 rfl rfl ?_
  refine V.iconst dX10_check_6 ic_0 ?_
  refine V.puti dX10_check_7 fl_X10_321 rfl rfl hR.F.x ?_
  refine V.sts (σ' := wI σ 11 x 15 (nI 0)) rfl ?_
  refine V.iconst dX10_check_10 ic_0 ?_
  refine V.istore_n2 (by decide) dX10_check_11 ?_
  exact loop (nWt G) 0 _ _ rfl scr.rfl' rfl
end CHECK

