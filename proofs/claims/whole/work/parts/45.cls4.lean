/-! ===== the class: more public calls ===== -/
/-- the rows that only the plain fields show -/
def osc (r : Nat) : Bool := decide (r ≠ 0 ∧ r ≠ 19 ∧ r ≠ 20 ∧ r ≠ 33 ∧ r ≠ 35 ∧ r ≠ 39 ∧ r ≠ 40 ∧ r < 41)
def osI (t : Nat) : Bool := scI t && decide (t ≠ 11 ∧ t ≠ 8 ∧ t ≠ 22 ∧ t ≠ 25 ∧ t ≠ 26)
theorem Rp.plain {σ σ2 : Sg} {G G' : GS} {x : Nat} {P : PT} (h : Rp σ x P G) (s : frm osI scR σ σ2) (e : ∀ r, osc r = true → G' r = G r) (hS : SC σ2 x P G') : Rp σ2 x P G' :=
  ⟨h.F.f s rfl rfl rfl rfl, hS, (h.O.f h.F s rfl).e (e 10 rfl) (e 11 rfl) (e 12 rfl),
   (h.H.f h.F s rfl rfl rfl rfl rfl rfl rfl rfl).e (e 1 rfl) (e 2 rfl) (e 3 rfl) (e 4 rfl) (e 5 rfl) (e 6 rfl) (e 7 rfl) (e 8 rfl) (e 9 rfl) (e 13 rfl) (e 14 rfl) (e 17 rfl) (e 26 rfl) (e 27 rfl) (e 29 rfl) (e 34 rfl) (e 36 rfl) (e 37 rfl) (e 38 rfl),
   (h.C.f h.F s rfl rfl rfl).e (e 13 rfl) (e 14 rfl) (e 15 rfl) (e 16 rfl) (e 17 rfl) (e 18 rfl) (e 26 rfl) (e 27 rfl),
   (h.L.f h.F s rfl rfl rfl).e (e 26 rfl) (e 27 rfl) (e 28 rfl) (e 29 rfl) (e 30 rfl) (e 31 rfl) (e 32 rfl),
   (h.T.f h.F s rfl rfl rfl rfl rfl).e (e 21 rfl) (e 22 rfl) (e 23 rfl) (e 24 rfl) (e 25 rfl),
   h.J.e (e 1 rfl) (e 26 rfl)⟩
theorem osc_u2 {G : GS} {r k j : Nat} {v : Int32} (h : osc k = false) (hr : osc r = true) : u2 G k j v r = G r := by
  refine u2_row ?_
  rintro rfl
  exact tf_abs h hr
section CLS4
variable {E : VE} {σ : Sg} {G : GS} {x : Nat} {P : PT} {post : Option Value → Sg → Prop}
set_option maxRecDepth 100000 in
theorem k_months (hR : Rp σ x P G) (hI : Inv G) (n : Int32) (hp : PU x σ (s_months G n) post) : MX10_months E 2 0 0 [.ref x, .int n] σ post := by
  refine MA.of RX10 "months" [some (.ref x), some (.int n), none] rfl rfl rfl (catAll rfl) (Nat.le_of_ble_eq_true rfl) rfl (fun X => ?_)
  refine V.iload_n (i := 1) dX10_months_0 rfl rfl ?_
  refine V.iconst dX10_months_1 ic_1 ?_
  refine V.icmp_lt (tgt := 11) dX10_months_2 rfl (fun c2 => ?_) (fun c2 => ?_)
  · rw [fa_lt, toI _ (by decide)] at c2
    refine V.aload_n (i := 0) dX10_months_11 rfl rfl ?_
    refine V.iconst dX10_months_12 ic_1 ?_
    refine V.cv1D (ci := 10) dX10_months_13 lk_X10_82 (by decide) rfl hR.F.x (k_finding hR _ (by decide) ⟨rfl, rfl⟩) (by decide) (by decide) (Nat.le_of_ble_eq_true rfl) (Nat.le_of_ble_eq_true rfl) (Nat.le_of_ble_eq_true rfl) ?_
    refine V.iret dX10_months_16 (Nat.le_of_ble_eq_true rfl) (Nat.le_of_ble_eq_true rfl) ?_
    exact puF hp (if_neg (by omega)) hR rfl
  · rw [fa_lt, toI _ (by decide)] at c2
    refine V.iload_n (i := 1) dX10_months_5 rfl rfl ?_
    refine V.bipush dX10_months_6 bc_99 ?_
    refine V.icmp_le (tgt := 17) dX10_months_8 rfl (fun c8 => ?_) (fun c8 => ?_)
    · rw [fa_le, toI _ (by decide)] at c8
      refine V.aload_n (i := 0) dX10_months_17 rfl rfl ?_
      refine V.geti dX10_months_18 fl_X10_47 rfl hR.F.x ?_
      refine V.as _ hR.S.mon ?_
      refine V.istore_n2 (by decide) dX10_months_21 ?_
      refine V.aload_n (i := 0) dX10_months_22 rfl rfl ?_
      refine V.iload_n (i := 1) dX10_months_23 rfl rfl ?_
      refine V.puti dX10_months_24 fl_X10_47 rfl rfl hR.F.x ?_
      refine V.iload_n (i := 2) dX10_months_27 rfl rfl ?_
      refine V.iret dX10_months_28 (Nat.le_of_ble_eq_true rfl) (Nat.le_of_ble_eq_true rfl) ?_
      refine pu hp (if_pos (by omega)) (hR.plain (frm.wI rfl) (fun r hr => osc_u2 rfl hr) ?_) rfl
      have h := hR.S
      exact ⟨(by simpa [sI_wI, sI_wR, sI_wA, u2] using h.shipN), (by simpa [sI_wI, sI_wR, sI_wA, u2] using h.chN), (by simpa [sI_wI, sI_wR, sI_wA, u2] using h.caN), (by simpa [sI_wI, sI_wR, sI_wA, u2] using h.lkN), (by simpa [sI_wI, sI_wR, sI_wA, u2] using h.trN), (by simpa [sI_wI, sI_wR, sI_wA, u2] using h.day), (by simpa [sI_wI, sI_wR, sI_wA, u2] using h.mon), (by simpa [sI_wI, sI_wR, sI_wA, u2] using h.drN), (by simpa [sI_wI, sI_wR, sI_wA, u2] using h.wtN), (by simpa [sI_wI, sI_wR, sI_wA, u2] using h.wdN), (by simpa [sI_wI, sI_wR, sI_wA, u2] using h.tpN), (by simpa [sI_wI, sI_wR, sI_wA, u2] using h.tp), (by simpa [sI_wI, sI_wR, sI_wA, u2] using h.wt), (by simpa [sI_wI, sI_wR, sI_wA, u2] using h.fd)⟩
    · rw [fa_le, toI _ (by decide)] at c8
      refine V.aload_n (i := 0) dX10_months_11 rfl rfl ?_
      refine V.iconst dX10_months_12 ic_1 ?_
      refine V.cv1D (ci := 10) dX10_months_13 lk_X10_82 (by decide) rfl hR.F.x (k_finding hR _ (by decide) ⟨rfl, rfl⟩) (by decide) (by decide) (Nat.le_of_ble_eq_true rfl) (Nat.le_of_ble_eq_true rfl) (Nat.le_of_ble_eq_true rfl) ?_
      refine V.iret dX10_months_16 (Nat.le_of_ble_eq_true rfl) (Nat.le_of_ble_eq_true rfl) ?_
      exact puF hp (if_neg (by omega)) hR rfl
set_option maxRecDepth 100000 in
theorem k_day (hR : Rp σ x P G) (hI : Inv G) (n : Int32) (hp : PU x σ (s_day G n) post) : MX10_day E 2 0 0 [.ref x, .int n] σ post := by
  refine MA.of RX10 "day" [some (.ref x), some (.int n), none] rfl rfl rfl (catAll rfl) (Nat.le_of_ble_eq_true rfl) rfl (fun X => ?_)
  refine V.iload_n (i := 1) dX10_day_0 rfl rfl ?_
  refine V.sipush dX10_day_1 sc_10000 ?_
  refine V.cs2D dX10_day_4 lk_X10_96 (k_isBelowN _ 10000 (by decide) ⟨rfl, rfl⟩) (by decide) (by decide) (Nat.le_of_ble_eq_true rfl) (Nat.le_of_ble_eq_true rfl) (Nat.le_of_ble_eq_true rfl) ?_
  refine V.ifb_eq (tgt := 18) dX10_day_7 rfl (fun c7 => ?_) (fun c7 => ?_)
  · refine V.aload_n (i := 0) dX10_day_18 rfl rfl ?_
    refine V.iconst dX10_day_19 ic_1 ?_
    refine V.cv1D (ci := 10) dX10_day_20 lk_X10_82 (by decide) rfl hR.F.x (k_finding hR _ (by decide) ⟨rfl, rfl⟩) (by decide) (by decide) (Nat.le_of_ble_eq_true rfl) (Nat.le_of_ble_eq_true rfl) (Nat.le_of_ble_eq_true rfl) ?_
    refine V.iret dX10_day_23 (Nat.le_of_ble_eq_true rfl) (Nat.le_of_ble_eq_true rfl) ?_
    exact puF hp (if_neg (by omega)) hR rfl
  · refine V.iload_n (i := 1) dX10_day_10 rfl rfl ?_
    refine V.aload_n (i := 0) dX10_day_11 rfl rfl ?_
    refine V.geti dX10_day_12 fl_X10_79 rfl hR.F.x ?_
    refine V.icmp_ge (tgt := 24) dX10_day_15 rfl (fun c15 => ?_) (fun c15 => ?_)
    · rw [hR.S.day, fa_le] at c15
      refine V.iload_n (i := 1) dX10_day_24 rfl rfl ?_
      refine V.aload_n (i := 0) dX10_day_25 rfl rfl ?_
      refine V.geti dX10_day_26 fl_X10_79 rfl hR.F.x ?_
      refine V.as _ hR.S.day ?_
      refine V.isub dX10_day_29 ?_
      refine V.istore_n2 (by decide) dX10_day_30 ?_
      refine V.aload_n (i := 0) dX10_day_31 rfl rfl ?_
      refine V.iload_n (i := 1) dX10_day_32 rfl rfl ?_
      refine V.puti dX10_day_33 fl_X10_79 rfl rfl hR.F.x ?_
      refine V.iload_n (i := 2) dX10_day_36 rfl rfl ?_
      refine V.iret dX10_day_37 (Nat.le_of_ble_eq_true rfl) (Nat.le_of_ble_eq_true rfl) ?_
      refine pu hp (if_pos (by omega)) (hR.plain (frm.wI rfl) (fun r hr => osc_u2 rfl hr) ?_) rfl
      have h := hR.S
      exact ⟨(by simpa [sI_wI, sI_wR, sI_wA, u2] using h.shipN), (by simpa [sI_wI, sI_wR, sI_wA, u2] using h.chN), (by simpa [sI_wI, sI_wR, sI_wA, u2] using h.caN), (by simpa [sI_wI, sI_wR, sI_wA, u2] using h.lkN), (by simpa [sI_wI, sI_wR, sI_wA, u2] using h.trN), (by simpa [sI_wI, sI_wR, sI_wA, u2] using h.day), (by simpa [sI_wI, sI_wR, sI_wA, u2] using h.mon), (by simpa [sI_wI, sI_wR, sI_wA, u2] using h.drN), (by simpa [sI_wI, sI_wR, sI_wA, u2] using h.wtN), (by simpa [sI_wI, sI_wR, sI_wA, u2] using h.wdN), (by simpa [sI_wI, sI_wR, sI_wA, u2] using h.tpN), (by simpa [sI_wI, sI_wR, sI_wA, u2] using h.tp), (by simpa [sI_wI, sI_wR, sI_wA, u2] using h.wt), (by simpa [sI_wI, sI_wR, sI_wA, u2] using h.fd)⟩
    · rw [hR.S.day, fa_le] at c15
      refine V.aload_n (i := 0) dX10_day_18 rfl rfl ?_
      refine V.iconst dX10_day_19 ic_1 ?_
      refine V.cv1D (ci := 10) dX10_day_20 lk_X10_82 (by decide) rfl hR.F.x (k_finding hR _ (by decide) ⟨rfl, rfl⟩) (by decide) (by decide) (Nat.le_of_ble_eq_true rfl) (Nat.le_of_ble_eq_true rfl) (Nat.le_of_ble_eq_true rfl) ?_
      refine V.iret dX10_day_23 (Nat.le_of_ble_eq_true rfl) (Nat.le_of_ble_eq_true rfl) ?_
      exact puF hp (if_neg (by omega)) hR rfl
set_option maxRecDepth 100000 in
theorem k_tell (hR : Rp σ x P G) (hI : Inv G) (v : Int32) (hp : PU x σ (s_tell G v) post) : MX10_tell E 2 0 0 [.ref x, .int v] σ post := by
  refine MA.of RX10 "tell" [some (.ref x), some (.int v)] rfl rfl rfl (catAll rfl) (Nat.le_of_ble_eq_true rfl) rfl (fun X => ?_)
  have hw := hI.wtN
  refine V.aload_n (i := 0) dX10_tell_0 rfl rfl ?_
  refine V.geti dX10_tell_1 fl_X10_321 rfl hR.F.x ?_
  refine V.as _ (hR.S.wtN.trans hw.1) ?_
  refine V.bipush dX10_tell_4 bc_16 ?_
  refine V.icmp_lt (tgt := 15) dX10_tell_6 rfl (fun c6 => ?_) (fun c6 => ?_)
  · rw [nI_ltI (by omega) (by decide)] at c6
    refine V.aload_n (i := 0) dX10_tell_15 rfl rfl ?_
    refine V.getS dX10_tell_16 fl_X10_51 rfl hR.F.x hR.F.wait.1 ?_
    refine V.aload_n (i := 0) dX10_tell_19 rfl rfl ?_
    refine V.geti dX10_tell_20 fl_X10_321 rfl hR.F.x ?_
    refine V.as _ (hR.S.wtN.trans hw.1) ?_
    refine V.iload_n (i := 1) dX10_tell_23 rfl rfl ?_
    refine V.iast (t := 25) dX10_tell_24 hR.F.wait.2 (by decide) rfl rfl (show _ < 16 from (by omega)) (by decide) ?_
    refine V.aload_n (i := 0) dX10_tell_25 rfl rfl ?_
    refine V.dup dX10_tell_26 rfl ?_
    refine V.geti dX10_tell_27 fl_X10_321 rfl hR.F.x ?_
    refine V.as (nI (nWt G)) (by rw [sI_wI, if_neg (by simp)]; exact hR.S.wtN.trans hw.1) ?_
    refine V.iconst dX10_tell_30 ic_1 ?_
    refine V.iadd dX10_tell_31 ?_
    refine V.as _ (nI_add _ _) ?_
    refine V.puti dX10_tell_32 fl_X10_321 rfl rfl hR.F.x ?_
    refine V.aload_n (i := 0) dX10_tell_35 rfl rfl ?_
    refine V.geti dX10_tell_36 fl_X10_321 rfl hR.F.x ?_
    refine V.as (nI (nWt G + 1)) (by rw [sI_wI, if_pos ⟨rfl, rfl, rfl⟩]) ?_
    refine V.iret dX10_tell_39 (Nat.le_of_ble_eq_true rfl) (Nat.le_of_ble_eq_true rfl) ?_
    refine pu hp (if_neg (by omega)) (hR.plain ((frm.wI rfl).trans (frm.wI rfl)) (fun r hr => (osc_u2 rfl hr).trans (osc_u2 rfl hr)) ?_) rfl
    have h := hR.S
    exact ⟨(by simpa [sI_wI, sI_wR, sI_wA, u2] using h.shipN), (by simpa [sI_wI, sI_wR, sI_wA, u2] using h.chN), (by simpa [sI_wI, sI_wR, sI_wA, u2] using h.caN), (by simpa [sI_wI, sI_wR, sI_wA, u2] using h.lkN), (by simpa [sI_wI, sI_wR, sI_wA, u2] using h.trN), (by simpa [sI_wI, sI_wR, sI_wA, u2] using h.day), (by simpa [sI_wI, sI_wR, sI_wA, u2] using h.mon), (by simpa [sI_wI, sI_wR, sI_wA, u2] using h.drN), (by simpa [sI_wI, sI_wR, sI_wA, u2] using h.wtN), (by simpa [sI_wI, sI_wR, sI_wA, u2] using h.wdN), (by simpa [sI_wI, sI_wR, sI_wA, u2] using h.tpN), (by simpa [sI_wI, sI_wR, sI_wA, u2] using h.tp), (by intro j hj; rw [sI_wI, if_neg (by simp), sI_wI]; simp only [u2, true_and]; split <;> simp_all [h.wt]), (by simpa [sI_wI, sI_wR, sI_wA, u2] using h.fd)⟩
  · rw [nI_ltI (by omega) (by decide)] at c6
    refine V.aload_n (i := 0) dX10_tell_9 rfl rfl ?_
    refine V.iconst dX10_tell_10 ic_4 ?_
    refine V.cv1D (ci := 10) dX10_tell_11 lk_X10_82 (by decide) rfl hR.F.x (k_finding hR _ (by decide) ⟨rfl, rfl⟩) (by decide) (by decide) (Nat.le_of_ble_eq_true rfl) (Nat.le_of_ble_eq_true rfl) (Nat.le_of_ble_eq_true rfl) ?_
    refine V.iret dX10_tell_14 (Nat.le_of_ble_eq_true rfl) (Nat.le_of_ble_eq_true rfl) ?_
    exact puF hp (if_pos (by omega)) hR rfl
set_option maxRecDepth 100000 in
theorem k_named (hR : Rp σ x P G) (hI : Inv G) (nm on : Int32) (hp : PU x σ (s_named G nm on) post) : MX10_named E 2 0 0 [.ref x, .int nm, .int on] σ post := by
  refine MA.of RX10 "named" [some (.ref x), some (.int nm), some (.int on), none] rfl rfl rfl (catAll rfl) (Nat.le_of_ble_eq_true rfl) rfl (fun X => ?_)
  have h16 := hI.shN
  have loop : ∀ m k, m + k = nSh G → ((0 ≤ nm.toInt ∧ nm.toInt ≤ 99) ∧ 0 ≤ on.toInt ∧ on.toInt ≤ 9999) → fstOf (fun i => decide (hadOn G i 0 on = nm)) (nSh G) 0 = fstOf (fun i => decide (hadOn G i 0 on = nm)) m k → V E X RX10 "named" cX10_named 4 (some .int) 2 0 0 (QM E X post 0 0) σ 0 0 27 [some (.ref x), some (.int nm), some (.int on), some (.int (nI k))] [] := by
    intro m
    induction m with
    | zero =>
      intro k hk ha hf
      refine V.iload_n (i := 3) dX10_named_27 rfl rfl ?_
      refine V.aload_n (i := 0) dX10_named_28 rfl rfl ?_
      refine V.geti dX10_named_29 fl_X10_86 rfl hR.F.x ?_
      refine V.icmp_geT (tgt := 58) dX10_named_32 rfl (lpT (hR.S.shipN.trans h16.1) (by omega) (by omega)) ?_
      refine V.aload_n (i := 0) dX10_named_58 rfl rfl ?_
      refine V.iconst dX10_named_59 ic_2 ?_
      refine V.cv1D (ci := 10) dX10_named_60 lk_X10_82 (by decide) rfl hR.F.x (k_finding hR _ (by decide) ⟨rfl, rfl⟩) (by decide) (by decide) (Nat.le_of_ble_eq_true rfl) (Nat.le_of_ble_eq_true rfl) (Nat.le_of_ble_eq_true rfl) ?_
      refine V.iret dX10_named_63 (Nat.le_of_ble_eq_true rfl) (Nat.le_of_ble_eq_true rfl) ?_
      exact puF hp (by unfold s_named; rw [if_pos ha, hf, if_neg (by unfold fstOf; omega)]) hR rfl
    | succ m ih =>
      intro k hk ha hf
      rw [fstOf_s] at hf
      refine V.iload_n (i := 3) dX10_named_27 rfl rfl ?_
      refine V.aload_n (i := 0) dX10_named_28 rfl rfl ?_
      refine V.geti dX10_named_29 fl_X10_86 rfl hR.F.x ?_
      refine V.icmp_geF (tgt := 58) dX10_named_32 rfl (lpF (hR.S.shipN.trans h16.1) (by omega) (by omega)) ?_
      refine V.aload_n (i := 0) dX10_named_35 rfl rfl ?_
      refine V.getS dX10_named_36 fl_X10_11 rfl hR.F.x hR.F.ships.1 ?_
      refine V.iload_n (i := 3) dX10_named_39 rfl rfl ?_
      refine V.aaldS (t := 32) dX10_named_40 hR.F.ships.2 (by decide) (by decide) rfl (show _ < 16 from (by omega)) (by decide) (hR.H.at k (by omega)).1 ?_
      refine V.iconst dX10_named_41 ic_0 ?_
      refine V.iload_n (i := 2) dX10_named_42 rfl rfl ?_
      refine V.cv2D (ci := 5) dX10_named_43 lk_X10_115 (by decide) rfl (hR.H.at k (by omega)).2 (k_traitOn hR k 0 on (by omega) (by decide) ⟨rfl, rfl⟩) (by decide) (by decide) (Nat.le_of_ble_eq_true rfl) (Nat.le_of_ble_eq_true rfl) (Nat.le_of_ble_eq_true rfl) ?_
      refine V.iload_n (i := 1) dX10_named_46 rfl rfl ?_
      refine V.icmp_ne (tgt := 52) dX10_named_47 rfl (fun c47 => ?_) (fun c47 => ?_)
      · refine V.iinc3 (by decide) dX10_named_52 (inc1 _) ?_
        refine V.goto (tgt := 27) dX10_named_55 rfl ?_
        exact ih (k + 1) (by omega) ha (by rw [hf, if_neg (by simpa using c47)])
      · refine V.iload_n (i := 3) dX10_named_50 rfl rfl ?_
        refine V.iret dX10_named_51 (Nat.le_of_ble_eq_true rfl) (Nat.le_of_ble_eq_true rfl) ?_
        refine pu hp ?_ hR rfl
        rw [if_pos (by simpa using c47)] at hf; unfold s_named; rw [if_pos ha, hf, if_pos (by omega)]
  refine V.iload_n (i := 1) dX10_named_0 rfl rfl ?_
  refine V.bipush dX10_named_1 bc_100 ?_
  refine V.cs2D dX10_named_3 lk_X10_96 (k_isBelowN _ 100 (by decide) ⟨rfl, rfl⟩) (by decide) (by decide) (Nat.le_of_ble_eq_true rfl) (Nat.le_of_ble_eq_true rfl) (Nat.le_of_ble_eq_true rfl) ?_
  refine V.ifb_eq (tgt := 19) dX10_named_6 rfl (fun c6 => ?_) (fun c6 => ?_)
  · refine V.aload_n (i := 0) dX10_named_19 rfl rfl ?_
    refine V.iconst dX10_named_20 ic_1 ?_
    refine V.cv1D (ci := 10) dX10_named_21 lk_X10_82 (by decide) rfl hR.F.x (k_finding hR _ (by decide) ⟨rfl, rfl⟩) (by decide) (by decide) (Nat.le_of_ble_eq_true rfl) (Nat.le_of_ble_eq_true rfl) (Nat.le_of_ble_eq_true rfl) ?_
    refine V.iret dX10_named_24 (Nat.le_of_ble_eq_true rfl) (Nat.le_of_ble_eq_true rfl) ?_
    exact puF hp (if_neg (by omega)) hR rfl
  · refine V.iload_n (i := 2) dX10_named_9 rfl rfl ?_
    refine V.sipush dX10_named_10 sc_10000 ?_
    refine V.cs2D dX10_named_13 lk_X10_96 (k_isBelowN _ 10000 (by decide) ⟨rfl, rfl⟩) (by decide) (by decide) (Nat.le_of_ble_eq_true rfl) (Nat.le_of_ble_eq_true rfl) (Nat.le_of_ble_eq_true rfl) ?_
    refine V.ifb_ne (tgt := 25) dX10_named_16 rfl (fun c16 => ?_) (fun c16 => ?_)
    · refine V.iconst dX10_named_25 ic_0 ?_
      refine V.istore_n3 (by decide) dX10_named_26 ?_
      exact loop (nSh G) 0 (by omega) (by omega) rfl
    · refine V.aload_n (i := 0) dX10_named_19 rfl rfl ?_
      refine V.iconst dX10_named_20 ic_1 ?_
      refine V.cv1D (ci := 10) dX10_named_21 lk_X10_82 (by decide) rfl hR.F.x (k_finding hR _ (by decide) ⟨rfl, rfl⟩) (by decide) (by decide) (Nat.le_of_ble_eq_true rfl) (Nat.le_of_ble_eq_true rfl) (Nat.le_of_ble_eq_true rfl) ?_
      refine V.iret dX10_named_24 (Nat.le_of_ble_eq_true rfl) (Nat.le_of_ble_eq_true rfl) ?_
      exact puF hp (if_neg (by omega)) hR rfl
set_option maxRecDepth 100000 in
theorem k_found (hR : Rp σ x P G) (hI : Inv G) (n : Int32) (hp : PU x σ (s_found G n) post) : MX10_found E 2 0 0 [.ref x, .int n] σ post := by
  refine MA.of RX10 "found" [some (.ref x), some (.int n)] rfl rfl rfl (catAll rfl) (Nat.le_of_ble_eq_true rfl) rfl (fun X => ?_)
  refine V.iload_n (i := 1) dX10_found_0 rfl rfl ?_
  refine V.iconst dX10_found_1 ic_1 ?_
  refine V.icmp_lt (tgt := 10) dX10_found_2 rfl (fun c2 => ?_) (fun c2 => ?_)
  · rw [fa_lt, toI _ (by decide)] at c2
    refine V.aload_n (i := 0) dX10_found_10 rfl rfl ?_
    refine V.iconst dX10_found_11 ic_1 ?_
    refine V.cv1D (ci := 10) dX10_found_12 lk_X10_82 (by decide) rfl hR.F.x (k_finding hR _ (by decide) ⟨rfl, rfl⟩) (by decide) (by decide) (Nat.le_of_ble_eq_true rfl) (Nat.le_of_ble_eq_true rfl) (Nat.le_of_ble_eq_true rfl) ?_
    refine V.iret dX10_found_15 (Nat.le_of_ble_eq_true rfl) (Nat.le_of_ble_eq_true rfl) ?_
    exact puF hp (if_neg (by omega)) hR rfl
  · rw [fa_lt, toI _ (by decide)] at c2
    refine V.iload_n (i := 1) dX10_found_5 rfl rfl ?_
    refine V.iconst dX10_found_6 ic_5 ?_
    refine V.icmp_le (tgt := 16) dX10_found_7 rfl (fun c7 => ?_) (fun c7 => ?_)
    · rw [fa_le, toI _ (by decide)] at c7
      obtain ⟨j, hj, rfl⟩ := idxOf (x := n) (n := 6) (by omega)
      refine V.aload_n (i := 0) dX10_found_16 rfl rfl ?_
      refine V.getS dX10_found_17 fl_X10_55 rfl hR.F.x hR.F.fnds.1 ?_
      refine V.iload_n (i := 1) dX10_found_20 rfl rfl ?_
      refine V.iald (t := 26) dX10_found_21 hR.F.fnds.2 (by decide) rfl rfl (show _ < 6 from hj) (by decide) ?_
      refine V.iret dX10_found_22 (Nat.le_of_ble_eq_true rfl) (Nat.le_of_ble_eq_true rfl) ?_
      exact pv hp (by unfold s_found; rw [if_pos (by omega)]) (by rw [tn_nI (by omega)]; exact hR.S.fd j hj) hR rfl
    · rw [fa_le, toI _ (by decide)] at c7
      refine V.aload_n (i := 0) dX10_found_10 rfl rfl ?_
      refine V.iconst dX10_found_11 ic_1 ?_
      refine V.cv1D (ci := 10) dX10_found_12 lk_X10_82 (by decide) rfl hR.F.x (k_finding hR _ (by decide) ⟨rfl, rfl⟩) (by decide) (by decide) (Nat.le_of_ble_eq_true rfl) (Nat.le_of_ble_eq_true rfl) (Nat.le_of_ble_eq_true rfl) ?_
      refine V.iret dX10_found_15 (Nat.le_of_ble_eq_true rfl) (Nat.le_of_ble_eq_true rfl) ?_
      exact puF hp (if_neg (by omega)) hR rfl
set_option maxRecDepth 100000 in
theorem k_banned (hR : Rp σ x P G) (hI : Inv G) (s w : Int32) (hp : PU x σ (s_banned G s w) post) : MX10_banned E 3 0 0 [.ref x, .int s, .int w] σ post := by
  refine MA.of RX10 "banned" [some (.ref x), some (.int s), some (.int w), none] rfl rfl rfl (catAll rfl) (Nat.le_of_ble_eq_true rfl) rfl (fun X => ?_)
  have h16 := hI.shN.2
  by_cases hs : 0 ≤ s.toInt ∧ s.toInt < nSh G
  · obtain ⟨i, hi, rfl⟩ := idxOf hs
    refine V.aload_n (i := 0) dX10_banned_0 rfl rfl ?_
    refine V.iload_n (i := 1) dX10_banned_1 rfl rfl ?_
    refine V.cv1D (ci := 10) dX10_banned_2 lk_X10_92 (by decide) rfl hR.F.x (k_shipAtY hR hI i hi ⟨rfl, rfl⟩) (by decide) (by decide) (Nat.le_of_ble_eq_true rfl) (Nat.le_of_ble_eq_true rfl) (Nat.le_of_ble_eq_true rfl) ?_
    refine V.astore_n3 (by decide) dX10_banned_5 ?_
    refine V.aload_n (i := 3) dX10_banned_6 rfl rfl ?_
    refine V.ifnull dX10_banned_7 ?_
    refine V.iload_n (i := 2) dX10_banned_10 rfl rfl ?_
    refine V.iconst dX10_banned_11 ic_3 ?_
    refine V.cs2D dX10_banned_12 lk_X10_96 (k_isBelowN _ 3 (by decide) ⟨rfl, rfl⟩) (by decide) (by decide) (Nat.le_of_ble_eq_true rfl) (Nat.le_of_ble_eq_true rfl) (Nat.le_of_ble_eq_true rfl) ?_
    refine V.ifb_ne (tgt := 24) dX10_banned_15 rfl (fun c15 => ?_) (fun c15 => ?_)
    · obtain ⟨j, hj, rfl⟩ := idxOf c15
      have hR0 : s_banned G (nI i) (nI j) = (if j = 0 then (b2 (¬ G 36 i = 0), G) else if j = 1 then (G 37 i, G) else if G 36 i = 0 then fnd G 2 else (G 38 i, G)) := by unfold s_banned; rw [tn_nI (by omega), tn_nI (by omega), if_pos (by omega)]
      rw [hR0] at hp
      refine V.iload_n (i := 2) dX10_banned_24 rfl rfl ?_
      refine V.if_ne (tgt := 41) dX10_banned_25 rfl (fun c25 => ?_) (fun c25 => ?_)
      · rw [show (0 : Int32) = nI 0 from rfl, nI_eq (by omega) (by decide)] at c25
        refine V.iload_n (i := 2) dX10_banned_41 rfl rfl ?_
        refine V.iconst dX10_banned_42 ic_1 ?_
        refine V.icmp_ne (tgt := 51) dX10_banned_43 rfl (fun c43 => ?_) (fun c43 => ?_)
        · rw [nI_eq (by omega) (by decide)] at c43
          refine V.aload_n (i := 3) dX10_banned_51 rfl rfl ?_
          refine V.cv0D (ci := 5) dX10_banned_52 lk_X10_137 (by decide) rfl (hR.H.at i hi).2 (k_isBanned hR hI i hi ⟨rfl, rfl⟩) (by decide) (by decide) (Nat.le_of_ble_eq_true rfl) (Nat.le_of_ble_eq_true rfl) (Nat.le_of_ble_eq_true rfl) ?_
          refine V.ifb_eq (tgt := 65) dX10_banned_55 rfl (fun c55 => ?_) (fun c55 => ?_)
          · refine V.aload_n (i := 0) dX10_banned_65 rfl rfl ?_
            refine V.iconst dX10_banned_66 ic_2 ?_
            refine V.cv1D (ci := 10) dX10_banned_67 lk_X10_82 (by decide) rfl hR.F.x (k_finding hR _ (by decide) ⟨rfl, rfl⟩) (by decide) (by decide) (Nat.le_of_ble_eq_true rfl) (Nat.le_of_ble_eq_true rfl) (Nat.le_of_ble_eq_true rfl) ?_
            refine V.iret dX10_banned_70 (Nat.le_of_ble_eq_true rfl) (Nat.le_of_ble_eq_true rfl) ?_
            first | exact pv hp (by rw [if_neg (by omega), if_neg (by omega), if_neg c55]) ((hR.H.since i hi).trans (if_neg c55)) hR rfl | exact puF hp (by rw [if_neg (by omega), if_neg (by omega), if_pos (Classical.not_not.mp c55)]) hR rfl
          · refine V.aload_n (i := 3) dX10_banned_58 rfl rfl ?_
            refine V.geti dX10_banned_59 fl_X10_300 rfl (hR.H.at i hi).2 ?_
            refine V.goto (tgt := 70) dX10_banned_62 rfl ?_
            refine V.iret dX10_banned_70 (Nat.le_of_ble_eq_true rfl) (Nat.le_of_ble_eq_true rfl) ?_
            first | exact pv hp (by rw [if_neg (by omega), if_neg (by omega), if_neg c55]) ((hR.H.since i hi).trans (if_neg c55)) hR rfl | exact puF hp (by rw [if_neg (by omega), if_neg (by omega), if_pos (Classical.not_not.mp c55)]) hR rfl
        · rw [nI_eq (by omega) (by decide)] at c43
          refine V.aload_n (i := 3) dX10_banned_46 rfl rfl ?_
          refine V.geti dX10_banned_47 fl_X10_297 rfl (hR.H.at i hi).2 ?_
          refine V.iret dX10_banned_50 (Nat.le_of_ble_eq_true rfl) (Nat.le_of_ble_eq_true rfl) ?_
          exact pv hp (by rw [if_neg (by omega), if_pos (by omega)]) (hR.H.bans i hi) hR rfl
      · rw [show (0 : Int32) = nI 0 from rfl, nI_eq (by omega) (by decide)] at c25
        refine V.aload_n (i := 3) dX10_banned_28 rfl rfl ?_
        refine V.cv0D (ci := 5) dX10_banned_29 lk_X10_137 (by decide) rfl (hR.H.at i hi).2 (k_isBanned hR hI i hi ⟨rfl, rfl⟩) (by decide) (by decide) (Nat.le_of_ble_eq_true rfl) (Nat.le_of_ble_eq_true rfl) (Nat.le_of_ble_eq_true rfl) ?_
        refine V.ifb_eq (tgt := 39) dX10_banned_32 rfl (fun c32 => ?_) (fun c32 => ?_)
        · refine V.iconst dX10_banned_39 ic_0 ?_
          refine V.iret dX10_banned_40 (Nat.le_of_ble_eq_true rfl) (Nat.le_of_ble_eq_true rfl) ?_
          first | exact pv hp (if_pos (by omega)) (b2T (by assumption)).symm hR rfl | exact pv hp (if_pos (by omega)) (b2F (by assumption)).symm hR rfl
        · refine V.iconst dX10_banned_35 ic_1 ?_
          refine V.goto (tgt := 40) dX10_banned_36 rfl ?_
          refine V.iret dX10_banned_40 (Nat.le_of_ble_eq_true rfl) (Nat.le_of_ble_eq_true rfl) ?_
          first | exact pv hp (if_pos (by omega)) (b2T (by assumption)).symm hR rfl | exact pv hp (if_pos (by omega)) (b2F (by assumption)).symm hR rfl
    · refine V.aload_n (i := 0) dX10_banned_18 rfl rfl ?_
      refine V.iconst dX10_banned_19 ic_1 ?_
      refine V.cv1D (ci := 10) dX10_banned_20 lk_X10_82 (by decide) rfl hR.F.x (k_finding hR _ (by decide) ⟨rfl, rfl⟩) (by decide) (by decide) (Nat.le_of_ble_eq_true rfl) (Nat.le_of_ble_eq_true rfl) (Nat.le_of_ble_eq_true rfl) ?_
      refine V.iret dX10_banned_23 (Nat.le_of_ble_eq_true rfl) (Nat.le_of_ble_eq_true rfl) ?_
      exact puF hp (if_neg (by omega)) hR rfl
  · skip
    refine V.aload_n (i := 0) dX10_banned_0 rfl rfl ?_
    refine V.iload_n (i := 1) dX10_banned_1 rfl rfl ?_
    refine V.cv1D (ci := 10) dX10_banned_2 lk_X10_92 (by decide) rfl hR.F.x (k_shipAtN hR hI s hs ⟨rfl, rfl⟩) (by decide) (by decide) (Nat.le_of_ble_eq_true rfl) (Nat.le_of_ble_eq_true rfl) (Nat.le_of_ble_eq_true rfl) ?_
    refine V.astore_n3N (by decide) dX10_banned_5 ?_
    refine V.aload_nN (i := 3) dX10_banned_6 rfl rfl ?_
    refine V.ifnullN (tgt := 18) dX10_banned_7 rfl ?_
    refine V.aload_n (i := 0) dX10_banned_18 rfl rfl ?_
    refine V.iconst dX10_banned_19 ic_1 ?_
    refine V.cv1D (ci := 10) dX10_banned_20 lk_X10_82 (by decide) rfl hR.F.x (k_finding hR _ (by decide) ⟨rfl, rfl⟩) (by decide) (by decide) (Nat.le_of_ble_eq_true rfl) (Nat.le_of_ble_eq_true rfl) (Nat.le_of_ble_eq_true rfl) ?_
    refine V.iret dX10_banned_23 (Nat.le_of_ble_eq_true rfl) (Nat.le_of_ble_eq_true rfl) ?_
    exact puF hp (if_neg (by omega)) hR rfl
end CLS4

