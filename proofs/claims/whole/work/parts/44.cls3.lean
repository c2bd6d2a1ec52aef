/-! ===== the class: findings, public calls that only read ===== -/
section CLS3A
variable {σ σ2 σ3 : Sg} {G : GS} {x : Nat} {P : PT} {SI SR : Nat → Bool}
theorem frm.rfl' : frm SI SR σ σ := ⟨fun _ _ => rfl, fun _ _ _ _ _ => rfl, fun _ _ _ _ _ => rfl⟩
theorem frm.trans (f : frm SI SR σ σ2) (g : frm SI SR σ2 σ3) : frm SI SR σ σ3 :=
  ⟨fun a h => (g.1 a (by rw [f.1 a h]; exact h)).trans (f.1 a h), fun t a k hs h => (g.2.1 t a k hs (by rw [f.1 a h]; exact h)).trans (f.2.1 t a k hs h), fun t a k hs h => (g.2.2 t a k hs (by rw [f.1 a h]; exact h)).trans (f.2.2 t a k hs h)⟩
theorem tf_abs {b : Bool} (h : b = false) (h2 : b = true) : False := by rw [h] at h2; cases h2
theorem frm.wI {t a k : Nat} {v : Int32} (h : SI t = false) : frm SI SR σ (wI σ t a k v) :=
  ⟨fun _ _ => rfl, fun t' a' k' hs _ => (by rw [sI_wI, if_neg]; rintro ⟨rfl, -⟩; exact tf_abs h hs), fun _ _ _ _ _ => rfl⟩
theorem frm.wA {t a : Nat} {v : Nat → Int32} (h : SI t = false) : frm SI SR σ (wA σ t a v) :=
  ⟨fun _ _ => rfl, fun t' a' k' hs _ => (by rw [sI_wA, if_neg]; rintro ⟨rfl, -⟩; exact tf_abs h hs), fun _ _ _ _ _ => rfl⟩
theorem frm.wR {t a k : Nat} {v : Option Nat} (h : SR t = false) : frm SI SR σ (wR σ t a k v) :=
  ⟨fun _ _ => rfl, fun _ _ _ _ _ => rfl, fun t' a' k' hs _ => (by rw [sR_wR, if_neg]; rintro ⟨rfl, -⟩; exact tf_abs h hs)⟩
theorem frm.wN {t : Nat} (hlt : ∀ a, sT σ a ≠ 0 → a < sN σ) : frm SI SR σ (wN σ t) :=
  ⟨fun a h => by rw [sT_wN, if_neg (by have := hlt a h; omega)], fun t' a k _ h => by rw [sI_wN, if_neg (by have := hlt a h; omega)], fun t' a k _ h => by rw [sR_wN, if_neg (by have := hlt a h; omega)]⟩
/-- what only the scratch cells (tally, boarding) may lose -/
def bcI (t : Nat) : Bool := decide (t ≠ 1 ∧ t ≠ 7 ∧ (t < 27 ∨ 31 < t))
def scI (t : Nat) : Bool := decide (t ≠ 7)
theorem sc_bc {t : Nat} (h : bcI t = true) : scI t = true := decide_eq_true (of_decide_eq_true h).2.1
theorem frm.weak {SI2 SR2 : Nat → Bool} (f : frm SI SR σ σ2) (h1 : ∀ t, SI2 t = true → SI t = true) (h2 : ∀ t, SR2 t = true → SR t = true) : frm SI2 SR2 σ σ2 := ⟨f.1, fun t a k hs h => f.2.1 t a k (h1 t hs) h, fun t a k hs h => f.2.2 t a k (h2 t hs) h⟩
def scR (_ : Nat) : Bool := true
def scr (σ σ2 : Sg) : Prop := frm scI scR σ σ2 ∧ sG σ2 = sG σ
theorem scr.rfl' : scr σ σ := ⟨frm.rfl', rfl⟩
theorem scr.trans (h : scr σ σ2) (g : scr σ2 σ3) : scr σ σ3 := ⟨h.1.trans g.1, g.2.trans h.2⟩
theorem scr.wI {t a k : Nat} {v : Int32} (h : scI t = false) : scr σ (wI σ t a k v) := ⟨frm.wI h, rfl⟩
theorem scr.wA {t a : Nat} {v : Nat → Int32} (h : scI t = false) : scr σ (wA σ t a v) := ⟨frm.wA h, rfl⟩
def bcr (σ σ2 : Sg) : Prop := frm bcI scR σ σ2 ∧ sG σ2 = sG σ
theorem bcr.rfl' : bcr σ σ := ⟨frm.rfl', rfl⟩
theorem bcr.trans (h : bcr σ σ2) (g : bcr σ2 σ3) : bcr σ σ3 := ⟨h.1.trans g.1, g.2.trans h.2⟩
theorem bcr.wI {t a k : Nat} {v : Int32} (h : bcI t = false) : bcr σ (wI σ t a k v) := ⟨frm.wI h, rfl⟩
theorem bcr.wA {t a : Nat} {v : Nat → Int32} (h : bcI t = false) : bcr σ (wA σ t a v) := ⟨frm.wA h, rfl⟩
theorem scr.bcr (h : scr σ σ2) : bcr σ σ2 := ⟨h.1.weak (fun _ => sc_bc) (fun _ h => h), h.2⟩
theorem Rp.frame (h : Rp σ x P G) (s : frm bcI scR σ σ2) : Rp σ2 x P G :=
  ⟨h.F.f s rfl rfl rfl rfl, h.S.f h.F s rfl rfl (s.num _ h.F.tape.2 (by decide) rfl) rfl rfl rfl, h.O.f h.F s rfl, h.H.f h.F s rfl rfl rfl rfl rfl rfl rfl rfl, h.C.f h.F s rfl rfl rfl, h.L.f h.F s rfl rfl rfl, h.T.f h.F s rfl rfl rfl rfl rfl, h.J⟩
theorem Rp.bcr (h : Rp σ x P G) (s : bcr σ σ2) : Rp σ2 x P G := h.frame s.1
theorem Rp.scr (h : Rp σ x P G) (s : scr σ σ2) : Rp σ2 x P G := h.frame s.bcr.1
theorem Rp.wG (h : Rp σ x P G) (g : GS) : Rp (wG σ g) x P G := h.frame ⟨fun _ _ => rfl, fun _ _ _ _ _ => rfl, fun _ _ _ _ _ => rfl⟩
/-- a finding is counted -/
def fw (σ : Sg) (P : PT) (k : Nat) : Sg := wI σ 26 (P 0 9) k (sI σ 26 (P 0 9) k + nI 1)
theorem Rp_fw (h : Rp σ x P G) (k : Nat) : Rp (fw σ P k) x P (fnd G k).2 := by
  have s : frm (fun t => decide (t ≠ 26)) scR σ (fw σ P k) := frm.wI rfl
  have e : ∀ r, r < 41 → (fnd G k).2 r = G r := fun r hr => u2_row (by omega)
  refine ⟨h.F.f s rfl rfl rfl rfl, ?_, (h.O.f h.F s rfl).e (e 10 (by decide)) (e 11 (by decide)) (e 12 (by decide)),
   (h.H.f h.F s rfl rfl rfl rfl rfl rfl rfl rfl).e (e 1 (by decide)) (e 2 (by decide)) (e 3 (by decide)) (e 4 (by decide)) (e 5 (by decide)) (e 6 (by decide)) (e 7 (by decide)) (e 8 (by decide)) (e 9 (by decide)) (e 13 (by decide)) (e 14 (by decide)) (e 17 (by decide)) (e 26 (by decide)) (e 27 (by decide)) (e 29 (by decide)) (e 34 (by decide)) (e 36 (by decide)) (e 37 (by decide)) (e 38 (by decide)),
   (h.C.f h.F s rfl rfl rfl).e (e 13 (by decide)) (e 14 (by decide)) (e 15 (by decide)) (e 16 (by decide)) (e 17 (by decide)) (e 18 (by decide)) (e 26 (by decide)) (e 27 (by decide)),
   (h.L.f h.F s rfl rfl rfl).e (e 26 (by decide)) (e 27 (by decide)) (e 28 (by decide)) (e 29 (by decide)) (e 30 (by decide)) (e 31 (by decide)) (e 32 (by decide)),
   (h.T.f h.F s rfl rfl rfl rfl rfl).e (e 21 (by decide)) (e 22 (by decide)) (e 23 (by decide)) (e 24 (by decide)) (e 25 (by decide)),
   h.J.e (e 1 (by decide)) (e 26 (by decide))⟩
  have hx : ∀ k' : Nat, sI (fw σ P k) 11 x k' = sI σ 11 x k' := fun k' => s.num _ h.F.x (by decide) rfl
  refine ⟨?_, ?_, ?_, ?_, ?_, ?_, ?_, ?_, ?_, ?_, ?_, ?_, ?_, ?_⟩
  · rw [e 1 (by decide), hx]; exact h.S.shipN
  · rw [e 6 (by decide), hx]; exact h.S.chN
  · rw [e 13 (by decide), hx]; exact h.S.caN
  · rw [e 26 (by decide), hx]; exact h.S.lkN
  · rw [e 21 (by decide), hx]; exact h.S.trN
  · rw [e 0 (by decide), hx]; exact h.S.day
  · rw [e 35 (by decide), hx]; exact h.S.mon
  · rw [e 33 (by decide), hx]; exact h.S.drN
  · rw [e 39 (by decide), hx]; exact h.S.wtN
  · rw [e 10 (by decide), s.num _ h.F.owners.2 (by decide) rfl]; exact h.S.wdN
  · rw [e 19 (by decide), s.num _ h.F.tape.2 (by decide) rfl]; exact h.S.tpN
  · intro j hj; rw [e 20 (by decide), s.num _ h.F.bytes.2 (by decide) rfl]; exact h.S.tp j hj
  · intro j hj; rw [e 40 (by decide), s.num _ h.F.wait.2 (by decide) rfl]; exact h.S.wt j hj
  · intro j hj
    show (if 26 = 26 ∧ P 0 9 = P 0 9 ∧ j = k then sI σ 26 (P 0 9) k + nI 1 else sI σ 26 (P 0 9) j) = u2 G 41 k (G 41 k + nI 1) 41 j
    rw [u2_at]
    by_cases q : j = k
    · rw [if_pos ⟨rfl, rfl, q⟩, if_pos q, ← q, h.S.fd j hj]
    · rw [if_neg (fun z => q z.2.2), if_neg q, h.S.fd j hj]
end CLS3A
section CLS3
variable {E : VE} {σ : Sg} {G : GS} {x : Nat} {P : PT} {post : Option Value → Sg → Prop}
/-- what a public call owes -/
def PU (x : Nat) (σ : Sg) (R : Int32 × GS) (post : Option Value → Sg → Prop) : Prop := ∀ s Q, Rp s x Q R.2 → sG s = sG σ → post (some (.int R.1)) s
theorem pu {R : Int32 × GS} {v : Int32} {s : Sg} (hp : PU x σ R post) (h : R = (v, G)) (hR : Rp s x P G) (hg : sG s = sG σ) : post (some (.int v)) s := by
  subst h
  exact hp s P hR hg
theorem pv {R : Int32 × GS} {v w : Int32} {s : Sg} (hp : PU x σ R post) (h : R = (w, G)) (hv : v = w) (hR : Rp s x P G) (hg : sG s = sG σ) : post (some (.int v)) s := by
  subst h
  subst hv
  exact hp s P hR hg
theorem puF {R : Int32 × GS} {s : Sg} {k : Nat} (hp : PU x σ R post) (h : R = fnd G k) (hR : Rp s x P G) (hg : sG s = sG σ) : post (some (.int (fnd G k).1)) (fw s P k) := by
  subst h
  exact hp _ P (Rp_fw hR k) hg
set_option maxRecDepth 100000 in
theorem k_finding (hR : Rp σ x P G) (k : Nat) (hk : k < 6) (hp : post (some (.int (fnd G k).1)) (fw σ P k)) : MX10_finding E 1 0 0 [.ref x, .int (nI k)] σ post := by
  refine MA.of RX10 "finding" [some (.ref x), some (.int (nI k))] rfl rfl rfl (catAll rfl) (Nat.le_of_ble_eq_true rfl) rfl (fun X => ?_)
  refine V.aload_n (i := 0) dX10_finding_0 rfl rfl ?_
  refine V.getS dX10_finding_1 fl_X10_55 rfl hR.F.x hR.F.fnds.1 ?_
  refine V.iload_n (i := 1) dX10_finding_4 rfl rfl ?_
  refine V.dup2 dX10_finding_5 rfl rfl ?_
  refine V.iald (t := 26) dX10_finding_6 hR.F.fnds.2 (by decide) rfl rfl (show _ < 6 from (by omega)) (by decide) ?_
  refine V.iconst dX10_finding_7 ic_1 ?_
  refine V.iadd dX10_finding_8 ?_
  refine V.iast (t := 26) dX10_finding_9 hR.F.fnds.2 (by decide) rfl rfl (show _ < 6 from (by omega)) (by decide) ?_
  refine V.ldcw dX10_finding_10 wv_X10_333 ?_
  refine V.iload_n (i := 1) dX10_finding_13 rfl rfl ?_
  refine V.isub dX10_finding_14 ?_
  refine V.iret dX10_finding_15 (Nat.le_of_ble_eq_true rfl) (Nat.le_of_ble_eq_true rfl) ?_
  exact hp
set_option maxRecDepth 100000 in
theorem k_as (hR : Rp σ x P G) (hI : Inv G) (s k : Int32) (hp : PU x σ (s_as G s k) post) : MX10_as E 3 0 0 [.ref x, .int s, .int k] σ post := by
  refine MA.of RX10 "as" [some (.ref x), some (.int s), some (.int k), none] rfl rfl rfl (catAll rfl) (Nat.le_of_ble_eq_true rfl) rfl (fun X => ?_)
  have h16 := hI.shN.2
  by_cases hs : 0 ≤ s.toInt ∧ s.toInt < nSh G
  · obtain ⟨i, hi, rfl⟩ := idxOf hs
    have hk := hI.kind i hi
    refine V.aload_n (i := 0) dX10_as_0 rfl rfl ?_
    refine V.iload_n (i := 1) dX10_as_1 rfl rfl ?_
    refine V.cv1D (ci := 10) dX10_as_2 lk_X10_92 (by decide) rfl hR.F.x (k_shipAtY hR hI i hi ⟨rfl, rfl⟩) (by decide) (by decide) (Nat.le_of_ble_eq_true rfl) (Nat.le_of_ble_eq_true rfl) (Nat.le_of_ble_eq_true rfl) ?_
    refine V.astore_n3 (by decide) dX10_as_5 ?_
    refine V.aload_n (i := 3) dX10_as_6 rfl rfl ?_
    refine V.ifnull dX10_as_7 ?_
    refine V.iload_n (i := 2) dX10_as_10 rfl rfl ?_
    refine V.iconst dX10_as_11 ic_4 ?_
    refine V.cs2D dX10_as_12 lk_X10_96 (k_isBelowN _ 4 (by decide) ⟨rfl, rfl⟩) (by decide) (by decide) (Nat.le_of_ble_eq_true rfl) (Nat.le_of_ble_eq_true rfl) (Nat.le_of_ble_eq_true rfl) ?_
    refine V.ifb_ne (tgt := 24) dX10_as_15 rfl (fun c15 => ?_) (fun c15 => ?_)
    · refine V.aload_n (i := 3) dX10_as_24 rfl rfl ?_
      refine V.geti dX10_as_25 fl_X10_100 rfl (hR.H.at i hi).2 ?_
      refine V.as _ ((hR.H.kind i hi).trans hk.1) ?_
      refine V.iload_n (i := 2) dX10_as_28 rfl rfl ?_
      refine V.cs2D dX10_as_29 lk_X10_103 (k_isUnder _ _ hk.2 ⟨rfl, rfl⟩) (by decide) (by decide) (Nat.le_of_ble_eq_true rfl) (Nat.le_of_ble_eq_true rfl) (Nat.le_of_ble_eq_true rfl) ?_
      refine V.ifb_ne (tgt := 41) dX10_as_32 rfl (fun c32 => ?_) (fun c32 => ?_)
      · refine V.gets (i := 1) (by decide) dX10_as_41 fs_X10_106 ?_
        refine V.aload_n (i := 3) dX10_as_44 rfl rfl ?_
        refine V.geti dX10_as_45 fl_X10_100 rfl (hR.H.at i hi).2 ?_
        refine V.as _ ((hR.H.kind i hi).trans hk.1) ?_
        refine V.sald (i := 1) (by decide) dX10_as_48 rfl hk.2 ?_
        refine V.iret dX10_as_49 (Nat.le_of_ble_eq_true rfl) (Nat.le_of_ble_eq_true rfl) ?_
        refine pv hp (by unfold s_as; rw [tn_nI (by omega), if_pos (by omega), if_pos]; rw [hk.1]; rcases c32 with q | q | q; exact Or.inl q; exact Or.inr (Or.inl q.symm); exact Or.inr (Or.inr q)) ?_ hR rfl
        rw [hk.1]; generalize gN G 2 i = k at hk ⊢; have := hk.2; rcases (show k = 0 ∨ k = 1 ∨ k = 2 ∨ k = 3 by omega) with rfl | rfl | rfl | rfl <;> decide
      · refine V.aload_n (i := 0) dX10_as_35 rfl rfl ?_
        refine V.iconst dX10_as_36 ic_5 ?_
        refine V.cv1D (ci := 10) dX10_as_37 lk_X10_82 (by decide) rfl hR.F.x (k_finding hR _ (by decide) ⟨rfl, rfl⟩) (by decide) (by decide) (Nat.le_of_ble_eq_true rfl) (Nat.le_of_ble_eq_true rfl) (Nat.le_of_ble_eq_true rfl) ?_
        refine V.iret dX10_as_40 (Nat.le_of_ble_eq_true rfl) (Nat.le_of_ble_eq_true rfl) ?_
        refine puF hp ?_ hR rfl
        unfold s_as; rw [tn_nI (by omega), if_pos (by omega), if_neg]; rw [hk.1]; rintro (q | q | q); exact c32 (Or.inl q); exact c32 (Or.inr (Or.inl q.symm)); exact c32 (Or.inr (Or.inr q))
    · refine V.aload_n (i := 0) dX10_as_18 rfl rfl ?_
      refine V.iconst dX10_as_19 ic_1 ?_
      refine V.cv1D (ci := 10) dX10_as_20 lk_X10_82 (by decide) rfl hR.F.x (k_finding hR _ (by decide) ⟨rfl, rfl⟩) (by decide) (by decide) (Nat.le_of_ble_eq_true rfl) (Nat.le_of_ble_eq_true rfl) (Nat.le_of_ble_eq_true rfl) ?_
      refine V.iret dX10_as_23 (Nat.le_of_ble_eq_true rfl) (Nat.le_of_ble_eq_true rfl) ?_
      exact puF hp (if_neg (by omega)) hR rfl
  · skip
    refine V.aload_n (i := 0) dX10_as_0 rfl rfl ?_
    refine V.iload_n (i := 1) dX10_as_1 rfl rfl ?_
    refine V.cv1D (ci := 10) dX10_as_2 lk_X10_92 (by decide) rfl hR.F.x (k_shipAtN hR hI s hs ⟨rfl, rfl⟩) (by decide) (by decide) (Nat.le_of_ble_eq_true rfl) (Nat.le_of_ble_eq_true rfl) (Nat.le_of_ble_eq_true rfl) ?_
    refine V.astore_n3N (by decide) dX10_as_5 ?_
    refine V.aload_nN (i := 3) dX10_as_6 rfl rfl ?_
    refine V.ifnullN (tgt := 18) dX10_as_7 rfl ?_
    refine V.aload_n (i := 0) dX10_as_18 rfl rfl ?_
    refine V.iconst dX10_as_19 ic_1 ?_
    refine V.cv1D (ci := 10) dX10_as_20 lk_X10_82 (by decide) rfl hR.F.x (k_finding hR _ (by decide) ⟨rfl, rfl⟩) (by decide) (by decide) (Nat.le_of_ble_eq_true rfl) (Nat.le_of_ble_eq_true rfl) (Nat.le_of_ble_eq_true rfl) ?_
    refine V.iret dX10_as_23 (Nat.le_of_ble_eq_true rfl) (Nat.le_of_ble_eq_true rfl) ?_
    exact puF hp (if_neg (by omega)) hR rfl
set_option maxRecDepth 100000 in
theorem k_has (hR : Rp σ x P G) (hI : Inv G) (s w on : Int32) (hp : PU x σ (s_has G s w on) post) : MX10_has E 3 0 0 [.ref x, .int s, .int w, .int on] σ post := by
  refine MA.of RX10 "has" [some (.ref x), some (.int s), some (.int w), some (.int on), none] rfl rfl rfl (catAll rfl) (Nat.le_of_ble_eq_true rfl) rfl (fun X => ?_)
  have h16 := hI.shN.2
  by_cases hs : 0 ≤ s.toInt ∧ s.toInt < nSh G
  · obtain ⟨i, hi, rfl⟩ := idxOf hs
    refine V.aload_n (i := 0) dX10_has_0 rfl rfl ?_
    refine V.iload_n (i := 1) dX10_has_1 rfl rfl ?_
    refine V.cv1D (ci := 10) dX10_has_2 lk_X10_92 (by decide) rfl hR.F.x (k_shipAtY hR hI i hi ⟨rfl, rfl⟩) (by decide) (by decide) (Nat.le_of_ble_eq_true rfl) (Nat.le_of_ble_eq_true rfl) (Nat.le_of_ble_eq_true rfl) ?_
    refine V.astore4 (by decide) dX10_has_5 ?_
    refine V.aload (i := 4) dX10_has_7 rfl ?_
    refine V.ifnull dX10_has_9 ?_
    refine V.iload_n (i := 2) dX10_has_12 rfl rfl ?_
    refine V.iconst dX10_has_13 ic_3 ?_
    refine V.cs2D dX10_has_14 lk_X10_96 (k_isBelowN _ 3 (by decide) ⟨rfl, rfl⟩) (by decide) (by decide) (Nat.le_of_ble_eq_true rfl) (Nat.le_of_ble_eq_true rfl) (Nat.le_of_ble_eq_true rfl) ?_
    refine V.ifb_eq (tgt := 30) dX10_has_17 rfl (fun c17 => ?_) (fun c17 => ?_)
    · refine V.aload_n (i := 0) dX10_has_30 rfl rfl ?_
      refine V.iconst dX10_has_31 ic_1 ?_
      refine V.cv1D (ci := 10) dX10_has_32 lk_X10_82 (by decide) rfl hR.F.x (k_finding hR _ (by decide) ⟨rfl, rfl⟩) (by decide) (by decide) (Nat.le_of_ble_eq_true rfl) (Nat.le_of_ble_eq_true rfl) (Nat.le_of_ble_eq_true rfl) ?_
      refine V.iret dX10_has_35 (Nat.le_of_ble_eq_true rfl) (Nat.le_of_ble_eq_true rfl) ?_
      exact puF hp (if_neg (by omega)) hR rfl
    · obtain ⟨j, hj, rfl⟩ := idxOf c17
      refine V.iload_n (i := 3) dX10_has_20 rfl rfl ?_
      refine V.sipush dX10_has_21 sc_10000 ?_
      refine V.cs2D dX10_has_24 lk_X10_96 (k_isBelowN _ 10000 (by decide) ⟨rfl, rfl⟩) (by decide) (by decide) (Nat.le_of_ble_eq_true rfl) (Nat.le_of_ble_eq_true rfl) (Nat.le_of_ble_eq_true rfl) ?_
      refine V.ifb_ne (tgt := 36) dX10_has_27 rfl (fun c27 => ?_) (fun c27 => ?_)
      · refine V.aload (i := 4) dX10_has_36 rfl ?_
        refine V.iload_n (i := 2) dX10_has_38 rfl rfl ?_
        refine V.iload_n (i := 3) dX10_has_39 rfl rfl ?_
        refine V.cv2D (ci := 5) dX10_has_40 lk_X10_115 (by decide) rfl (hR.H.at i hi).2 (k_traitOn hR i j on hi hj ⟨rfl, rfl⟩) (by decide) (by decide) (Nat.le_of_ble_eq_true rfl) (Nat.le_of_ble_eq_true rfl) (Nat.le_of_ble_eq_true rfl) ?_
        refine V.iret dX10_has_43 (Nat.le_of_ble_eq_true rfl) (Nat.le_of_ble_eq_true rfl) ?_
        exact pu hp (by unfold s_has; rw [tn_nI (by omega), tn_nI (by omega), if_pos (by omega)]) hR rfl
      · refine V.aload_n (i := 0) dX10_has_30 rfl rfl ?_
        refine V.iconst dX10_has_31 ic_1 ?_
        refine V.cv1D (ci := 10) dX10_has_32 lk_X10_82 (by decide) rfl hR.F.x (k_finding hR _ (by decide) ⟨rfl, rfl⟩) (by decide) (by decide) (Nat.le_of_ble_eq_true rfl) (Nat.le_of_ble_eq_true rfl) (Nat.le_of_ble_eq_true rfl) ?_
        refine V.iret dX10_has_35 (Nat.le_of_ble_eq_true rfl) (Nat.le_of_ble_eq_true rfl) ?_
        exact puF hp (if_neg (by omega)) hR rfl
  · skip
    refine V.aload_n (i := 0) dX10_has_0 rfl rfl ?_
    refine V.iload_n (i := 1) dX10_has_1 rfl rfl ?_
    refine V.cv1D (ci := 10) dX10_has_2 lk_X10_92 (by decide) rfl hR.F.x (k_shipAtN hR hI s hs ⟨rfl, rfl⟩) (by decide) (by decide) (Nat.le_of_ble_eq_true rfl) (Nat.le_of_ble_eq_true rfl) (Nat.le_of_ble_eq_true rfl) ?_
    refine V.astore4N (by decide) dX10_has_5 ?_
    refine V.aloadN (i := 4) dX10_has_7 rfl ?_
    refine V.ifnullN (tgt := 30) dX10_has_9 rfl ?_
    refine V.aload_n (i := 0) dX10_has_30 rfl rfl ?_
    refine V.iconst dX10_has_31 ic_1 ?_
    refine V.cv1D (ci := 10) dX10_has_32 lk_X10_82 (by decide) rfl hR.F.x (k_finding hR _ (by decide) ⟨rfl, rfl⟩) (by decide) (by decide) (Nat.le_of_ble_eq_true rfl) (Nat.le_of_ble_eq_true rfl) (Nat.le_of_ble_eq_true rfl) ?_
    refine V.iret dX10_has_35 (Nat.le_of_ble_eq_true rfl) (Nat.le_of_ble_eq_true rfl) ?_
    exact puF hp (if_neg (by omega)) hR rfl
end CLS3

