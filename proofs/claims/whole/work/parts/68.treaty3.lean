/-! ===== the class: the call treaty ===== -/
section TREATY3
variable {E : VE} {σ s2 : Sg} {G : GS} {x : Nat} {P : PT} {post : Option Value → Sg → Prop} {A B C : Nat → Int32}
def gx (G : GS) (A B C : Nat → Int32) : GS := fun r => if r = 23 then A else if r = 24 then B else if r = 25 then C else G r
theorem gx_all (G : GS) : (readAll G).2 = gx G ((readAll G).2 23) ((readAll G).2 24) ((readAll G).2 25) := by
  funext r
  unfold gx
  by_cases h1 : r = 23
  · rw [if_pos h1, h1]
  · rw [if_neg h1]
    by_cases h2 : r = 24
    · rw [if_pos h2, h2]
    · rw [if_neg h2]
      by_cases h3 : r = 25
      · rw [if_pos h3, h3]
      · rw [if_neg h3, readAll_row G h1 h2 h3]
def tyI (t k : Nat) : Bool := !(decide (t = 8) && (decide (k = 1) || decide (k = 2)))
theorem treaty_bad (hR : Rp σ x P G) (f : frk tyI (fun _ _ => true) σ s2) (h8 : sI s2 8 (P 0 6) 1 = nI 0) (e : eld G (gx G A B C)) : Rp s2 x P (u2 (gx G A B C) 19 0 (nI 0)) := by
  have hl : TR_lim s2 P (u2 (gx G A B C) 19 0 (nI 0)) := fun i (hi : i < nTr G) => (f.num 3 (hR.T.at i hi).2 (by decide) rfl).trans ((hR.T.lim i hi).trans (e.1 i hi).symm)
  have hw : TR_wt s2 P (u2 (gx G A B C) 19 0 (nI 0)) := fun i (hi : i < nTr G) k hk => (f.num k (hR.T.wts i hi).2 (by decide) rfl).trans ((hR.T.wt i hi k hk).trans (e.2.1 _ (by omega)).symm)
  have hg : TR_gr s2 P (u2 (gx G A B C) 19 0 (nI 0)) := fun i (hi : i < nTr G) k hk => (f.num k (hR.T.grv i hi).2 (by decide) rfl).trans ((hR.T.gr i hi k hk).trans (e.2.2 _ (by omega)).symm)
  have hT : TR s2 P (u2 (gx G A B C) 19 0 (nI 0)) := ⟨(TR_at.k (P := P) (G := G) hR.T hR.F f (fun _ => rfl) rfl), (TR_from_.k (P := P) (G := G) hR.T hR.F f rfl rfl rfl), (TR_wts.k (P := P) (G := G) hR.T hR.F f rfl rfl), (TR_grv.k (P := P) (G := G) hR.T hR.F f rfl rfl), hl, hw, hg⟩
  have hS : SC s2 x P (u2 (gx G A B C) 19 0 (nI 0)) := ⟨((f.num 1 hR.F.x (by decide) rfl).trans hR.S.shipN), ((f.num 2 hR.F.x (by decide) rfl).trans hR.S.chN), ((f.num 5 hR.F.x (by decide) rfl).trans hR.S.caN), ((f.num 7 hR.F.x (by decide) rfl).trans hR.S.lkN), ((f.num 9 hR.F.x (by decide) rfl).trans hR.S.trN), ((f.num 11 hR.F.x (by decide) rfl).trans hR.S.day), ((f.num 12 hR.F.x (by decide) rfl).trans hR.S.mon), ((f.num 13 hR.F.x (by decide) rfl).trans hR.S.drN), ((f.num 15 hR.F.x (by decide) rfl).trans hR.S.wtN), ((f.num 1 hR.F.owners.2 (by decide) rfl).trans hR.S.wdN), h8, (fun j hj => (f.num j hR.F.bytes.2 (by decide) rfl).trans (hR.S.tp j hj)), (fun j hj => (f.num j hR.F.wait.2 (by decide) rfl).trans (hR.S.wt j hj)), (fun j hj => (f.num j hR.F.fnds.2 (by decide) rfl).trans (hR.S.fd j hj))⟩
  exact ⟨(hR.F.k f (fun _ => rfl) rfl rfl (fun _ => rfl)), hS, (hR.O.k hR.F f (fun _ => rfl) rfl rfl rfl), ⟨(SH_at.k (P := P) (G := G) hR.H hR.F f (fun _ => rfl) rfl), (SH_no.k (P := P) (G := G) hR.H hR.F f rfl rfl), (SH_kind.k (P := P) (G := G) hR.H hR.F f rfl rfl rfl), (SH_soc.k (P := P) (G := G) hR.H hR.F f rfl rfl rfl), (SH_built.k (P := P) (G := G) hR.H hR.F f rfl rfl rfl), (SH_lat.k (P := P) (G := G) hR.H hR.F f rfl rfl), (SH_week.k (P := P) (G := G) hR.H hR.F f rfl rfl), (SH_days.k (P := P) (G := G) hR.H hR.F f rfl rfl), (SH_rest.k (P := P) (G := G) hR.H hR.F f (fun _ => rfl) rfl rfl), (SH_berth.k (P := P) (G := G) hR.H hR.F f rfl rfl rfl rfl rfl), (SH_last.k (P := P) (G := G) hR.H hR.F f rfl rfl rfl rfl rfl rfl), (SH_since.k (P := P) (G := G) hR.H hR.F f rfl rfl rfl rfl), (SH_bans.k (P := P) (G := G) hR.H hR.F f rfl rfl rfl), (SH_chain.k (P := P) (G := G) hR.H hR.F f (fun _ => rfl) rfl rfl rfl rfl rfl rfl rfl rfl rfl)⟩, ⟨(CA_at.k (P := P) (G := G) hR.C hR.F f (fun _ => rfl) rfl), (CA_no.k (P := P) (G := G) hR.C hR.F f rfl rfl), (CA_ship.k (P := P) (G := G) hR.C hR.F f rfl rfl rfl), (CA_port.k (P := P) (G := G) hR.C hR.F f rfl rfl rfl), (CA_from_.k (P := P) (G := G) hR.C hR.F f rfl rfl rfl), (CA_over.k (P := P) (G := G) hR.C hR.F f rfl rfl rfl), (CA_held.k (P := P) (G := G) hR.C hR.F f rfl rfl rfl), (CA_lks.k (P := P) (G := G) hR.C hR.F f rfl rfl rfl rfl)⟩, ⟨(LO_at.k (P := P) (G := G) hR.L hR.F f (fun _ => rfl) rfl), (LO_call.k (P := P) (G := G) hR.L hR.F f rfl rfl rfl), (LO_by_.k (P := P) (G := G) hR.L hR.F f rfl rfl rfl), (LO_on_.k (P := P) (G := G) hR.L hR.F f rfl rfl rfl), (LO_flt.k (P := P) (G := G) hR.L hR.F f rfl rfl rfl), (LO_hold.k (P := P) (G := G) hR.L hR.F f rfl rfl rfl), (LO_chance.k (P := P) (G := G) hR.L hR.F f rfl rfl rfl)⟩, hT, (hR.J.e rfl rfl)⟩
def tyQ (P : PT) (n t : Nat) : PT := u2 (u2 (u2 P 7 n t) 8 n (t + 1)) 9 n (t + 2)
theorem tyQ_7 (P : PT) (n t c : Nat) : tyQ P n t 7 c = if c = n then t else P 7 c := by
  show u2 P 7 n t 7 c = _
  unfold u2; by_cases h : c = n <;> simp [h]
theorem tyQ_8 (P : PT) (n t c : Nat) : tyQ P n t 8 c = if c = n then t + 1 else P 8 c := by
  show u2 (u2 P 7 n t) 8 n (t + 1) 8 c = _
  unfold u2; by_cases h : c = n <;> simp [h]
theorem tyQ_9 (P : PT) (n t c : Nat) : tyQ P n t 9 c = if c = n then t + 2 else P 9 c := by
  show u2 (u2 (u2 P 7 n t) 8 n (t + 1)) 9 n (t + 2) 9 c = _
  unfold u2; by_cases h : c = n <;> simp [h]
def tyG (G : GS) (A B C : Nat → Int32) (on : Int32) : GS := u2 (u2 (u2 (gx G A B C) 19 0 (nI 0)) 22 (nTr G) on) 21 0 (nI (nTr G + 1))
theorem tyG_22 (on : Int32) (c : Nat) : tyG G A B C on 22 c = if c = nTr G then on else G 22 c := u2_at (G := G) (k := 22)
theorem treaty_ok {on : Int32} {t : Nat} (hR : Rp σ x P G) (hI : Inv G) (hn : nTr G < 6) (f : frk tyI (fun _ _ => true) σ s2) (h8 : sI s2 8 (P 0 6) 1 = nI 0) (e : eld G (gx G A B C)) (h0 : sI s2 10 t 0 = on) (hN : ∃ N0, TT N0 s2 t (t + 1) (t + 2) (gx G A B C)) :
    Rp (wI (wR s2 35 (P 0 5) (nTr G) (some t)) 11 x 9 (nI (nTr G + 1))) x (tyQ P (nTr G) t) (tyG G A B C on) := by
  obtain ⟨N0, hN⟩ := hN
  have eN : nTr (tyG G A B C on) = nTr G + 1 := tn_nI (by omega)
  have f2 : frk (fun t k => tyI t k && !(decide (t = 11) && decide (k = 9))) (fun t _ => decide (t ≠ 35)) σ (wI (wR s2 35 (P 0 5) (nTr G) (some t)) 11 x 9 (nI (nTr G + 1))) := ((f.weak (fun t k h => (Bool.and_eq_true _ _ ▸ h).1) (fun _ _ _ => rfl)).trans (frk.wR rfl)).trans (frk.wI rfl)
  have sI0 : ∀ u a k, u ≠ 11 → sI (wI (wR s2 35 (P 0 5) (nTr G) (some t)) 11 x 9 (nI (nTr G + 1))) u a k = sI s2 u a k := fun u a k hu => by rw [sI_wI, if_neg (fun z => hu z.1), sI_wR]
  have sR0 : ∀ u a k, u ≠ 35 → sR (wI (wR s2 35 (P 0 5) (nTr G) (some t)) 11 x 9 (nI (nTr G + 1))) u a k = sR s2 u a k := fun u a k hu => by rw [sR_wI, sR_wR, if_neg (fun z => hu z.1)]
  have sR35 : ∀ k, sR (wI (wR s2 35 (P 0 5) (nTr G) (some t)) 11 x 9 (nI (nTr G + 1))) 35 (P 0 5) k = if k = nTr G then some t else sR σ 35 (P 0 5) k := fun k => by
    rw [sR_wI, sR_wR]
    by_cases q : k = nTr G
    · rw [if_pos ⟨rfl, rfl, q⟩, if_pos q]
    · rw [if_neg (fun z => q z.2.2), if_neg q]; exact f.ref k hR.F.treaties.2 (by decide) rfl
  have sN1 : sI (wI (wR s2 35 (P 0 5) (nTr G) (some t)) 11 x 9 (nI (nTr G + 1))) 11 x 9 = nI (nTr G + 1) := by rw [sI_wI, if_pos ⟨rfl, rfl, rfl⟩]
  have sT0 : ∀ a, sT (wI (wR s2 35 (P 0 5) (nTr G) (some t)) 11 x 9 (nI (nTr G + 1))) a = sT s2 a := fun _ => rfl
  generalize hσ' : wI (wR s2 35 (P 0 5) (nTr G) (some t)) 11 x 9 (nI (nTr G + 1)) = σ' at f2 sI0 sR0 sR35 sN1 sT0 ⊢
  have split : ∀ {p : Nat → Prop}, (∀ c, c < nTr G → p c) → p (nTr G) → ∀ c, c < nTr (tyG G A B C on) → p c := by
    intro p h1 h2 c hc
    rw [eN] at hc
    by_cases q : c = nTr G
    · rw [q]; exact h2
    · exact h1 c (by omega)
  have q7 : ∀ i, i < nTr G → tyQ P (nTr G) t 7 i = P 7 i := fun i hi => by rw [tyQ_7, if_neg (by omega)]
  have q8 : ∀ i, i < nTr G → tyQ P (nTr G) t 8 i = P 8 i := fun i hi => by rw [tyQ_8, if_neg (by omega)]
  have q9 : ∀ i, i < nTr G → tyQ P (nTr G) t 9 i = P 9 i := fun i hi => by rw [tyQ_9, if_neg (by omega)]
  have n7 : tyQ P (nTr G) t 7 (nTr G) = t := by rw [tyQ_7, if_pos rfl]
  have n8 : tyQ P (nTr G) t 8 (nTr G) = t + 1 := by rw [tyQ_8, if_pos rfl]
  have n9 : tyQ P (nTr G) t 9 (nTr G) = t + 2 := by rw [tyQ_9, if_pos rfl]
  have hnx : nTr (gx G A B C) = nTr G := rfl
  obtain ⟨-, t1, t2, t3, t4, t5, t6, t7, t8⟩ := hN
  rw [hnx] at t6 t7 t8
  have T := hR.T
  have hT : TR σ' (tyQ P (nTr G) t) (tyG G A B C on) := by
    refine ⟨split (fun i hi => ?_) ?_, split (fun i hi => ?_) ?_, split (fun i hi => ?_) ?_, split (fun i hi => ?_) ?_, split (fun i hi => ?_) ?_, split (fun i hi k hk => ?_) (fun k hk => ?_), split (fun i hi k hk => ?_) (fun k hk => ?_)⟩
    · rw [q7 i hi]; exact ⟨(sR35 i).trans ((if_neg (by omega)).trans (T.at i hi).1), f2.tag (T.at i hi).2 (by decide)⟩
    · rw [n7]; exact ⟨(sR35 _).trans (if_pos rfl), (sT0 _).trans t1⟩
    · rw [q7 i hi, tyG_22, if_neg (by omega)]; exact (f2.num 0 (T.at i hi).2 (by decide) rfl).trans (T.from_ i hi)
    · rw [n7, tyG_22, if_pos rfl]; exact (sI0 _ _ _ (by decide)).trans h0
    · rw [q7 i hi, q8 i hi]; exact ⟨(f2.ref 1 (T.at i hi).2 (by decide) rfl).trans (T.wts i hi).1, f2.tag (T.wts i hi).2 (by decide)⟩
    · rw [n7, n8]; exact ⟨(sR0 _ _ _ (by decide)).trans t2, (sT0 _).trans t3⟩
    · rw [q7 i hi, q9 i hi]; exact ⟨(f2.ref 2 (T.at i hi).2 (by decide) rfl).trans (T.grv i hi).1, f2.tag (T.grv i hi).2 (by decide)⟩
    · rw [n7, n9]; exact ⟨(sR0 _ _ _ (by decide)).trans t4, (sT0 _).trans t5⟩
    · rw [q7 i hi]; exact (f2.num 3 (T.at i hi).2 (by decide) rfl).trans ((T.lim i hi).trans (e.1 i hi).symm)
    · rw [n7]; exact (sI0 _ _ _ (by decide)).trans t6
    · rw [q8 i hi]; exact (f2.num k (T.wts i hi).2 (by decide) rfl).trans ((T.wt i hi k hk).trans (e.2.1 _ (by omega)).symm)
    · rw [n8]; exact (sI0 _ _ _ (by decide)).trans (t7 k hk)
    · rw [q9 i hi]; exact (f2.num k (T.grv i hi).2 (by decide) rfl).trans ((T.gr i hi k hk).trans (e.2.2 _ (by omega)).symm)
    · rw [n9]; exact (sI0 _ _ _ (by decide)).trans (t8 k hk)
  have hS : SC σ' x (tyQ P (nTr G) t) (tyG G A B C on) := ⟨((f2.num 1 hR.F.x (by decide) rfl).trans hR.S.shipN), ((f2.num 2 hR.F.x (by decide) rfl).trans hR.S.chN), ((f2.num 5 hR.F.x (by decide) rfl).trans hR.S.caN), ((f2.num 7 hR.F.x (by decide) rfl).trans hR.S.lkN), sN1, ((f2.num 11 hR.F.x (by decide) rfl).trans hR.S.day), ((f2.num 12 hR.F.x (by decide) rfl).trans hR.S.mon), ((f2.num 13 hR.F.x (by decide) rfl).trans hR.S.drN), ((f2.num 15 hR.F.x (by decide) rfl).trans hR.S.wtN), ((f2.num 1 hR.F.owners.2 (by decide) rfl).trans hR.S.wdN), ((sI0 _ _ _ (by decide)).trans h8), (fun j hj => (f2.num j hR.F.bytes.2 (by decide) rfl).trans (hR.S.tp j hj)), (fun j hj => (f2.num j hR.F.wait.2 (by decide) rfl).trans (hR.S.wt j hj)), (fun j hj => (f2.num j hR.F.fnds.2 (by decide) rfl).trans (hR.S.fd j hj))⟩
  exact ⟨(hR.F.k f2 (fun _ => rfl) rfl rfl (fun _ => rfl)), hS, (hR.O.k hR.F f2 (fun _ => rfl) rfl rfl rfl), ⟨(SH_at.k (P := P) (G := G) hR.H hR.F f2 (fun _ => rfl) rfl), (SH_no.k (P := P) (G := G) hR.H hR.F f2 rfl rfl), (SH_kind.k (P := P) (G := G) hR.H hR.F f2 rfl rfl rfl), (SH_soc.k (P := P) (G := G) hR.H hR.F f2 rfl rfl rfl), (SH_built.k (P := P) (G := G) hR.H hR.F f2 rfl rfl rfl), (SH_lat.k (P := P) (G := G) hR.H hR.F f2 rfl rfl), (SH_week.k (P := P) (G := G) hR.H hR.F f2 rfl rfl), (SH_days.k (P := P) (G := G) hR.H hR.F f2 rfl rfl), (SH_rest.k (P := P) (G := G) hR.H hR.F f2 (fun _ => rfl) rfl rfl), (SH_berth.k (P := P) (G := G) hR.H hR.F f2 rfl rfl rfl rfl rfl), (SH_last.k (P := P) (G := G) hR.H hR.F f2 rfl rfl rfl rfl rfl rfl), (SH_since.k (P := P) (G := G) hR.H hR.F f2 rfl rfl rfl rfl), (SH_bans.k (P := P) (G := G) hR.H hR.F f2 rfl rfl rfl), (SH_chain.k (P := P) (G := G) hR.H hR.F f2 (fun _ => rfl) rfl rfl rfl rfl rfl rfl rfl rfl rfl)⟩, ⟨(CA_at.k (P := P) (G := G) hR.C hR.F f2 (fun _ => rfl) rfl), (CA_no.k (P := P) (G := G) hR.C hR.F f2 rfl rfl), (CA_ship.k (P := P) (G := G) hR.C hR.F f2 rfl rfl rfl), (CA_port.k (P := P) (G := G) hR.C hR.F f2 rfl rfl rfl), (CA_from_.k (P := P) (G := G) hR.C hR.F f2 rfl rfl rfl), (CA_over.k (P := P) (G := G) hR.C hR.F f2 rfl rfl rfl), (CA_held.k (P := P) (G := G) hR.C hR.F f2 rfl rfl rfl), (CA_lks.k (P := P) (G := G) hR.C hR.F f2 rfl rfl rfl rfl)⟩, ⟨(LO_at.k (P := P) (G := G) hR.L hR.F f2 (fun _ => rfl) rfl), (LO_call.k (P := P) (G := G) hR.L hR.F f2 rfl rfl rfl), (LO_by_.k (P := P) (G := G) hR.L hR.F f2 rfl rfl rfl), (LO_on_.k (P := P) (G := G) hR.L hR.F f2 rfl rfl rfl), (LO_flt.k (P := P) (G := G) hR.L hR.F f2 rfl rfl rfl), (LO_hold.k (P := P) (G := G) hR.L hR.F f2 rfl rfl rfl), (LO_chance.k (P := P) (G := G) hR.L hR.F f2 rfl rfl rfl)⟩, hT, (hR.J.e rfl rfl)⟩
set_option maxRecDepth 100000 in
theorem k_treaty (hR : Rp σ x P G) (hI : Inv G) (on : Int32) (hp : PU x σ (s_treaty G on) post) : MX10_treaty E 7 8 64 [.ref x, .int on] σ post := by
  refine MA.of RX10 "treaty" [some (.ref x), some (.int on), none, none] rfl rfl rfl (catAll rfl) (Nat.le_of_ble_eq_true rfl) rfl (fun X => ?_)
  refine V.lt (fun hlt => ?_)
  have h6 := hI.trN
  have h60 := hI.tpN
  have l6 : P 0 6 < sN σ := hlt _ (by rw [hR.F.tape.2]; decide)
  have l7 : P 0 7 < sN σ := hlt _ (by rw [hR.F.bytes.2]; decide)
  have lx : x < sN σ := hlt _ (by rw [hR.F.x]; decide)
  have nT : nw σ (tyS (wN σ 10) (sN σ) on) := ty_nw
  have fT : frk (fun _ _ => true) (fun _ _ => true) σ (tyS (wN σ 10) (sN σ) on) := nT.frk hlt
  have hFT := hR.F.k fT (fun _ => rfl) rfl rfl (fun _ => rfl)
  have hTT : TT (sN σ) (tyS (wN σ 10) (sN σ) on) (sN σ) (sN σ + 1) (sN σ + 2) (iniG G) := by
    have q := ty_I (σ := σ) (on := on)
    refine ⟨⟨by omega, by omega, by omega⟩, ty_T.1, ty_R.1, ty_T.2.1, ty_R.2, ty_T.2.2, ?_, fun k hk => ?_, fun k hk => ?_⟩
    · rw [iniG_nTr, iniG_23, if_pos rfl]; exact q.2.1
    · rw [iniG_nTr, iniG_24, if_pos (by omega)]; exact q.2.2.1 k hk
    · rw [iniG_nTr, iniG_25, if_pos (by omega)]; exact q.2.2.2 k
  have hTP : TP (sN σ) (wI (tyS (wN σ 10) (sN σ) on) 8 (P 0 6) 2 (nI 0)) P (iniG G) 0 := by
    have e19 := iniG_row G (r := 19) (by decide) (by decide) (by decide)
    have e20 := iniG_row G (r := 20) (by decide) (by decide) (by decide)
    refine ⟨⟨l6, l7⟩, hFT.tape.2, hFT.bytes.1, hFT.bytes.2, ?_, by rw [sI_wI, if_pos ⟨rfl, rfl, rfl⟩], fun j hj => ?_, by rw [nTp_row e19]; exact h60.2⟩
    · rw [sI_wI, if_neg (by simp), nTp_row e19]
      exact (fT.num 1 hR.F.tape.2 (by decide) rfl).trans (hR.S.tpN.trans h60.1)
    · rw [sI_wI, if_neg (by simp), e20]
      exact (fT.num j hR.F.bytes.2 (by decide) rfl).trans (hR.S.tp j hj)
  generalize hσ1 : tyS (wN σ 10) (sN σ) on = σ1 at nT fT hFT hTT hTP
  have hon : sI σ1 10 (sN σ) 0 = on := by rw [← hσ1]; exact ty_I.1
  refine V.iload_n (i := 1) dX10_treaty_0 rfl rfl ?_
  refine V.sipush dX10_treaty_1 sc_10000 ?_
  refine V.cs2D dX10_treaty_4 lk_X10_96 (k_isBelowN _ 10000 (by decide) ⟨rfl, rfl⟩) (by decide) (by decide) (Nat.le_of_ble_eq_true rfl) (Nat.le_of_ble_eq_true rfl) (Nat.le_of_ble_eq_true rfl) ?_
  refine V.ifb_ne (tgt := 16) dX10_treaty_7 rfl (fun c7 => ?_) (fun c7 => ?_)
  · refine V.aload_n (i := 0) dX10_treaty_16 rfl rfl ?_
    refine V.geti dX10_treaty_17 fl_X10_185 rfl hR.F.x ?_
    refine V.as _ (hR.S.trN.trans h6.1) ?_
    refine V.bipush dX10_treaty_20 bc_6 ?_
    refine V.icmp_lt (tgt := 31) dX10_treaty_22 rfl (fun c22 => ?_) (fun c22 => ?_)
    · rw [nI_ltI (by omega) (by decide)] at c22
      refine V.new (ci := 9) dX10_treaty_31 (by decide) wk_X10_34 wx_X9 wn_X9 (by decide) (by decide) ?_
      refine V.dup dX10_treaty_34 rfl ?_
      refine V.iload_n (i := 1) dX10_treaty_35 rfl rfl ?_
      refine V.ci1U dX10_treaty_36 lk_X10_188 (k_treatyInit (s := wN σ 10) (t := sN σ) (if_pos rfl) (Nat.lt_succ_self _) on ⟨rfl, rfl⟩) (by decide) (by decide) (Nat.le_of_ble_eq_true rfl) (Nat.le_of_ble_eq_true rfl) (Nat.le_of_ble_eq_true rfl) ?_
      refine V.sts (σ' := σ1) hσ1 ?_
      refine V.astore_n2 (by decide) dX10_treaty_39 ?_
      refine V.aload_n (i := 0) dX10_treaty_40 rfl rfl ?_
      refine V.getS dX10_treaty_41 fl_X10_43 rfl hFT.x hFT.tape.1 ?_
      refine V.aload_n (i := 2) dX10_treaty_44 rfl rfl ?_
      refine V.cv1s (ci := 7) dX10_treaty_45 lk_X10_190 (by decide) rfl hFT.tape.2 (k_readInto hFT.tape.2 hTP hTT (fun s h => ⟨rfl, h⟩)) (by decide) (by decide) (Nat.le_of_ble_eq_true rfl) (Nat.le_of_ble_eq_true rfl) (Nat.le_of_ble_eq_true rfl) (fun s45 h45 => ?_)
      have f45 : frk (fun t k => !(decide (t = 8) && decide (k = 2))) (fun _ _ => true) σ s45 := ⟨fun b hb => (h45.1.1 b).trans (nT.1 b (hlt b hb)), fun u b k hu hb => (h45.1.2.2.1 u b k (hlt b hb) (fun z => by simp [z.1, z.2] at hu)).trans (nT.2.1 u b k (hlt b hb)), fun u b k _ hb => (h45.1.2.1 u b k).trans (nT.2.2.1 u b k (hlt b hb))⟩
      have hF45 := hR.F.k f45 (fun _ => rfl) rfl rfl (fun _ => rfl)
      have hG45 : sG s45 = sG σ := h45.1.2.2.2.1.trans nT.2.2.2.1
      refine V.istore_n3 (by decide) dX10_treaty_48 ?_
      refine V.aload_n (i := 0) dX10_treaty_49 rfl rfl ?_
      refine V.getS dX10_treaty_50 fl_X10_43 rfl hF45.x hF45.tape.1 ?_
      refine V.iconst dX10_treaty_53 ic_0 ?_
      refine V.puti dX10_treaty_54 fl_X10_178 rfl rfl hF45.tape.2 ?_
      refine V.sts (σ' := wI s45 8 (P 0 6) 1 (nI 0)) rfl ?_
      have f2 : frk tyI (fun _ _ => true) σ (wI s45 8 (P 0 6) 1 (nI 0)) := (f45.weak (fun t k h => by unfold tyI at h; cases h1 : decide (t = 8) <;> cases h2 : decide (k = 2) <;> simp_all) (fun _ _ _ => rfl)).trans (frk.wI rfl)
      have h8 : sI (wI s45 8 (P 0 6) 1 (nI 0)) 8 (P 0 6) 1 = nI 0 := by rw [sI_wI, if_pos ⟨rfl, rfl, rfl⟩]
      have hel : eld G (gx G ((readAll G).2 23) ((readAll G).2 24) ((readAll G).2 25)) := by rw [← gx_all]; exact eld_all G
      refine V.iload_n (i := 3) dX10_treaty_57 rfl rfl ?_
      refine V.ifb_ne (tgt := 72) dX10_treaty_58 rfl (fun c58 => ?_) (fun c58 => ?_)
      · have hz : s_treaty G on = (nI (nTr G + 1), u2 (u2 (u2 (readAll G).2 19 0 (nI 0)) 22 (nTr G) on) 21 0 (nI (nTr G + 1))) := by unfold s_treaty; rw [if_pos (by omega), if_neg (by omega), show (readAll G).1 = none from c58]
        have hTT2 : TT (sN σ) (wI s45 8 (P 0 6) 1 (nI 0)) (sN σ) (sN σ + 1) (sN σ + 2) (gx G ((readAll G).2 23) ((readAll G).2 24) ((readAll G).2 25)) := (by
          have q := h45.2.1 c58
          rw [show (rd 61 (iniG G) 0).2 = (readAll G).2 from rfl, gx_all] at q
          exact ⟨q.1, q.2.1, q.2.2.1, q.2.2.2.1, q.2.2.2.2.1, q.2.2.2.2.2.1, by rw [sI_wI, if_neg (by simp)]; exact q.2.2.2.2.2.2.1, fun k hk => by rw [sI_wI, if_neg (by simp)]; exact q.2.2.2.2.2.2.2.1 k hk, fun k hk => by rw [sI_wI, if_neg (by simp)]; exact q.2.2.2.2.2.2.2.2 k hk⟩)
        have h0 : sI (wI s45 8 (P 0 6) 1 (nI 0)) 10 (sN σ) 0 = on := (by rw [sI_wI, if_neg (by simp)]; exact (h45.1.2.2.2.2.2 _).trans hon)
        refine V.aload_n (i := 0) dX10_treaty_72 rfl rfl ?_
        refine V.getS dX10_treaty_73 fl_X10_36 rfl hF45.x hF45.treaties.1 ?_
        refine V.aload_n (i := 0) dX10_treaty_76 rfl rfl ?_
        refine V.geti dX10_treaty_77 fl_X10_185 rfl hF45.x ?_
        refine V.as (nI (nTr G)) ((f2.num 9 hR.F.x (by decide) rfl).trans (hR.S.trN.trans h6.1)) ?_
        refine V.aload_n (i := 2) dX10_treaty_80 rfl rfl ?_
        refine V.aast (t := 35) dX10_treaty_81 hF45.treaties.2 (by decide) (by decide) rfl (show _ < 6 from c22) (by decide) hTT2.2.1 ?_
        refine V.aload_n (i := 0) dX10_treaty_82 rfl rfl ?_
        refine V.dup dX10_treaty_83 rfl ?_
        refine V.geti dX10_treaty_84 fl_X10_185 rfl hF45.x ?_
        refine V.as (nI (nTr G)) ((f2.num 9 hR.F.x (by decide) rfl).trans (hR.S.trN.trans h6.1)) ?_
        refine V.iconst dX10_treaty_87 ic_1 ?_
        refine V.iadd dX10_treaty_88 ?_
        refine V.as _ (nI_add _ _) ?_
        refine V.puti dX10_treaty_89 fl_X10_185 rfl rfl hF45.x ?_
        refine V.aload_n (i := 0) dX10_treaty_92 rfl rfl ?_
        refine V.geti dX10_treaty_93 fl_X10_185 rfl hF45.x ?_
        refine V.as (nI (nTr G + 1)) (by rw [sI_wI, if_pos ⟨rfl, rfl, rfl⟩]) ?_
        refine V.iret dX10_treaty_96 (Nat.le_of_ble_eq_true rfl) (Nat.le_of_ble_eq_true rfl) ?_
        exact pu hp hz (by rw [gx_all]; exact treaty_ok hR hI c22 f2 h8 hel h0 ⟨_, hTT2⟩) hG45
      · obtain ⟨e, he⟩ : ∃ e, (readAll G).1 = some e := Option.ne_none_iff_exists'.mp c58
        have hz : s_treaty G on = ((-10) - nI e, u2 (readAll G).2 19 0 (nI 0)) := by unfold s_treaty; rw [if_pos (by omega), if_neg (by omega), he]
        refine V.bipush dX10_treaty_61 bc_m10 ?_
        refine V.aload_n (i := 0) dX10_treaty_63 rfl rfl ?_
        refine V.getS dX10_treaty_64 fl_X10_43 rfl hF45.x hF45.tape.1 ?_
        refine V.geti dX10_treaty_67 fl_X10_194 rfl hF45.tape.2 ?_
        refine V.as (nI e) (by rw [sI_wI, if_neg (by simp)]; exact h45.2.2 e he) ?_
        refine V.isub dX10_treaty_70 ?_
        refine V.iret dX10_treaty_71 (Nat.le_of_ble_eq_true rfl) (Nat.le_of_ble_eq_true rfl) ?_
        exact pu hp hz (by rw [gx_all]; exact treaty_bad hR f2 h8 hel) hG45
    · rw [nI_ltI (by omega) (by decide)] at c22
      refine V.aload_n (i := 0) dX10_treaty_25 rfl rfl ?_
      refine V.iconst dX10_treaty_26 ic_4 ?_
      refine V.cv1D (ci := 10) dX10_treaty_27 lk_X10_82 (by decide) rfl hR.F.x (k_finding hR _ (by decide) ⟨rfl, rfl⟩) (by decide) (by decide) (Nat.le_of_ble_eq_true rfl) (Nat.le_of_ble_eq_true rfl) (Nat.le_of_ble_eq_true rfl) ?_
      refine V.iret dX10_treaty_30 (Nat.le_of_ble_eq_true rfl) (Nat.le_of_ble_eq_true rfl) ?_
      exact puF hp ((if_pos (by omega)).trans (if_pos (by omega))) hR rfl
  · refine V.aload_n (i := 0) dX10_treaty_10 rfl rfl ?_
    refine V.iconst dX10_treaty_11 ic_1 ?_
    refine V.cv1D (ci := 10) dX10_treaty_12 lk_X10_82 (by decide) rfl hR.F.x (k_finding hR _ (by decide) ⟨rfl, rfl⟩) (by decide) (by decide) (Nat.le_of_ble_eq_true rfl) (Nat.le_of_ble_eq_true rfl) (Nat.le_of_ble_eq_true rfl) ?_
    refine V.iret dX10_treaty_15 (Nat.le_of_ble_eq_true rfl) (Nat.le_of_ble_eq_true rfl) ?_
    exact puF hp (if_neg (by omega)) hR rfl
end TREATY3

