/-! ===== the cells hold the rows: only rows below 41 and the findings matter; frames ===== -/
theorem grp_e {G' G : GS} (h11 : G' 11 = G 11) (h12 : G' 12 = G 12) : ∀ w a, grp G' w a = grp G w a
  | 0, a => rfl
  | w + 1, a => by unfold grp gN; rw [h11, h12, grp_e h11 h12 w a, grp_e h11 h12 w, grp_e h11 h12 w]
theorem chn_e {σ : Sg} {G' G : GS} (h5 : G' 5 = G 5) (h7 : G' 7 = G 7) (h8 : G' 8 = G 8) (h9 : G' 9 = G 9) (i w : Nat) : ∀ c p, chn σ G' i w c p ↔ chn σ G i w c p
  | 0, p => by unfold chn; rw [h5]
  | c + 1, p => by
    unfold chn
    rw [h7, h8, h9]
    by_cases q : G 7 c = nI (3 * i + w)
    · rw [if_pos q, if_pos q]
      constructor
      · rintro ⟨a, b, d, p2, r, s⟩
        exact ⟨a, b, d, p2, r, (chn_e h5 h7 h8 h9 i w c p2).mp s⟩
      · rintro ⟨a, b, d, p2, r, s⟩
        exact ⟨a, b, d, p2, r, (chn_e h5 h7 h8 h9 i w c p2).mpr s⟩
    · rw [if_neg q, if_neg q]
      exact chn_e h5 h7 h8 h9 i w c p
theorem lastL_e {G' G : GS} (h14 : G' 14 = G 14) (h27 : G' 27 = G 27) (h29 : G' 29 = G 29) (i : Nat) : ∀ l, lastL G' i l = lastL G i l
  | 0 => rfl
  | l + 1 => by unfold lastL shipOf gN; rw [h14, h27, h29, lastL_e h14 h27 h29 i l]
theorem openK_e {G' G : GS} (h14 : G' 14 = G 14) (h17 : G' 17 = G 17) (s : Int32) : ∀ n, openK G' s n = openK G s n
  | 0 => rfl
  | n + 1 => by unfold openK; rw [h14, h17, openK_e h14 h17 s n]
theorem openOf_e {G' G : GS} (h13 : G' 13 = G 13) (h14 : G' 14 = G 14) (h17 : G' 17 = G 17) (s : Int32) : openOf G' s = openOf G s := by
  unfold openOf nCa gN
  rw [h13, openK_e h14 h17]
theorem looksAt_e {G' G : GS} (h26 : G' 26 = G 26) (h27 : G' 27 = G 27) (c : Nat) : looksAt G' c = looksAt G c := by
  unfold looksAt nLk gN
  rw [h26, h27]
theorem gN_e {G' G : GS} {r : Nat} (h : G' r = G r) (j : Nat) : gN G' r j = gN G r j := by unfold gN; rw [h]
section REPROW
variable {σ : Sg} {G G' : GS} {x : Nat} {P : PT}
theorem OW.e (h : OW σ P G) (h10 : G' 10 = G 10) (h11 : G' 11 = G 11) (h12 : G' 12 = G 12) : OW σ P G' := fun a ha => by
  rw [show nWd G' = nWd G from gN_e h10 0, grp_e h11 h12]
  exact h a ha
theorem SH.e (h : SH σ P G) (h1 : G' 1 = G 1) (h2 : G' 2 = G 2) (h3 : G' 3 = G 3) (h4 : G' 4 = G 4) (h5 : G' 5 = G 5) (h6 : G' 6 = G 6) (h7 : G' 7 = G 7) (h8 : G' 8 = G 8) (h9 : G' 9 = G 9) (h13 : G' 13 = G 13) (h14 : G' 14 = G 14) (h17 : G' 17 = G 17) (h26 : G' 26 = G 26) (h27 : G' 27 = G 27) (h29 : G' 29 = G 29) (h34 : G' 34 = G 34) (h36 : G' 36 = G 36) (h37 : G' 37 = G 37) (h38 : G' 38 = G 38) : SH σ P G' := by
  have n1 : nSh G' = nSh G := gN_e h1 0
  have lt : ∀ i, i < nSh G' → i < nSh G := fun i hi => n1 ▸ hi
  refine ⟨fun i hi => h.at i (lt i hi), fun i hi => h.no i (lt i hi), fun i hi => by rw [h2]; exact h.kind i (lt i hi), fun i hi => by rw [h3]; exact h.soc i (lt i hi), fun i hi => by rw [h4]; exact h.built i (lt i hi), fun i hi => h.lat i (lt i hi), fun i hi => h.week i (lt i hi), fun i hi => h.days i (lt i hi), fun i hi => by rw [h34]; exact h.rest i (lt i hi), fun i hi => by rw [openOf_e h13 h14 h17]; exact h.berth i (lt i hi), fun i hi => by rw [show nLk G' = nLk G from gN_e h26 0, lastL_e h14 h27 h29]; exact h.last i (lt i hi), fun i hi => by rw [h36, h38]; exact h.since i (lt i hi), fun i hi => by rw [h37]; exact h.bans i (lt i hi), fun i hi w hw => ?_⟩
  obtain ⟨p, a, b⟩ := h.chain i (lt i hi) w hw
  exact ⟨p, a, by rw [show nCh G' = nCh G from gN_e h6 0]; exact (chn_e h5 h7 h8 h9 i w _ p).mpr b⟩
theorem CA.e (h : CA σ P G) (h13 : G' 13 = G 13) (h14 : G' 14 = G 14) (h15 : G' 15 = G 15) (h16 : G' 16 = G 16) (h17 : G' 17 = G 17) (h18 : G' 18 = G 18) (h26 : G' 26 = G 26) (h27 : G' 27 = G 27) : CA σ P G' := by
  have n1 : nCa G' = nCa G := gN_e h13 0
  have lt : ∀ i, i < nCa G' → i < nCa G := fun i hi => n1 ▸ hi
  exact ⟨fun i hi => h.at i (lt i hi), fun i hi => h.no i (lt i hi), fun i hi => by rw [gN_e h14]; exact h.ship i (lt i hi), fun i hi => by rw [h15]; exact h.port i (lt i hi), fun i hi => by rw [h16]; exact h.from_ i (lt i hi), fun i hi => by rw [h17]; exact h.over i (lt i hi), fun i hi => by rw [h18]; exact h.held i (lt i hi), fun i hi => by rw [looksAt_e h26 h27]; exact h.lks i (lt i hi)⟩
theorem LO.e (h : LO σ P G) (h26 : G' 26 = G 26) (h27 : G' 27 = G 27) (h28 : G' 28 = G 28) (h29 : G' 29 = G 29) (h30 : G' 30 = G 30) (h31 : G' 31 = G 31) (h32 : G' 32 = G 32) : LO σ P G' := by
  have n1 : nLk G' = nLk G := gN_e h26 0
  have lt : ∀ i, i < nLk G' → i < nLk G := fun i hi => n1 ▸ hi
  exact ⟨fun i hi => h.at i (lt i hi), fun i hi => by rw [gN_e h27]; exact h.call i (lt i hi), fun i hi => by rw [h28]; exact h.by_ i (lt i hi), fun i hi => by rw [h29]; exact h.on_ i (lt i hi), fun i hi => by rw [h30]; exact h.flt i (lt i hi), fun i hi => by rw [h31]; exact h.hold i (lt i hi), fun i hi => by rw [h32]; exact h.chance i (lt i hi)⟩
theorem TR.e (h : TR σ P G) (h21 : G' 21 = G 21) (h22 : G' 22 = G 22) (h23 : G' 23 = G 23) (h24 : G' 24 = G 24) (h25 : G' 25 = G 25) : TR σ P G' := by
  have n1 : nTr G' = nTr G := gN_e h21 0
  have lt : ∀ i, i < nTr G' → i < nTr G := fun i hi => n1 ▸ hi
  exact ⟨fun i hi => h.at i (lt i hi), fun i hi => by rw [h22]; exact h.from_ i (lt i hi), fun i hi => h.wts i (lt i hi), fun i hi => h.grv i (lt i hi), fun i hi => by rw [h23]; exact h.lim i (lt i hi), fun i hi => by rw [h24]; exact h.wt i (lt i hi), fun i hi => by rw [h25]; exact h.gr i (lt i hi)⟩
theorem NJ.e (h : NJ P G) (h1 : G' 1 = G 1) (h26 : G' 26 = G 26) : NJ P G' := by
  unfold NJ
  rw [show nSh G' = nSh G from gN_e h1 0, show nLk G' = nLk G from gN_e h26 0]
  exact h
theorem SC.e (h : SC σ x P G) (h0 : G' 0 = G 0) (h1 : G' 1 = G 1) (h6 : G' 6 = G 6) (h10 : G' 10 = G 10) (h13 : G' 13 = G 13) (h19 : G' 19 = G 19) (h20 : G' 20 = G 20) (h21 : G' 21 = G 21) (h26 : G' 26 = G 26) (h33 : G' 33 = G 33) (h35 : G' 35 = G 35) (h39 : G' 39 = G 39) (h40 : G' 40 = G 40) (hfd : ∀ k, k < 6 → sI σ 26 (P 0 9) k = G' 41 k) : SC σ x P G' := by
  refine ⟨?_, ?_, ?_, ?_, ?_, ?_, ?_, ?_, ?_, ?_, ?_, ?_, ?_, hfd⟩
  · rw [h1]; exact h.shipN
  · rw [h6]; exact h.chN
  · rw [h13]; exact h.caN
  · rw [h26]; exact h.lkN
  · rw [h21]; exact h.trN
  · rw [h0]; exact h.day
  · rw [h35]; exact h.mon
  · rw [h33]; exact h.drN
  · rw [h39]; exact h.wtN
  · rw [h10]; exact h.wdN
  · rw [h19]; exact h.tpN
  · rw [h20]; exact h.tp
  · rw [h40]; exact h.wt
theorem Rp.rows (h : Rp σ x P G) (e : ∀ r, r < 41 → G' r = G r) (hfd : ∀ k, k < 6 → sI σ 26 (P 0 9) k = G' 41 k) : Rp σ x P G' :=
  ⟨h.F, h.S.e (e 0 (by decide)) (e 1 (by decide)) (e 6 (by decide)) (e 10 (by decide)) (e 13 (by decide)) (e 19 (by decide)) (e 20 (by decide)) (e 21 (by decide)) (e 26 (by decide)) (e 33 (by decide)) (e 35 (by decide)) (e 39 (by decide)) (e 40 (by decide)) hfd,
   h.O.e (e 10 (by decide)) (e 11 (by decide)) (e 12 (by decide)),
   h.H.e (e 1 (by decide)) (e 2 (by decide)) (e 3 (by decide)) (e 4 (by decide)) (e 5 (by decide)) (e 6 (by decide)) (e 7 (by decide)) (e 8 (by decide)) (e 9 (by decide)) (e 13 (by decide)) (e 14 (by decide)) (e 17 (by decide)) (e 26 (by decide)) (e 27 (by decide)) (e 29 (by decide)) (e 34 (by decide)) (e 36 (by decide)) (e 37 (by decide)) (e 38 (by decide)),
   h.C.e (e 13 (by decide)) (e 14 (by decide)) (e 15 (by decide)) (e 16 (by decide)) (e 17 (by decide)) (e 18 (by decide)) (e 26 (by decide)) (e 27 (by decide)),
   h.L.e (e 26 (by decide)) (e 27 (by decide)) (e 28 (by decide)) (e 29 (by decide)) (e 30 (by decide)) (e 31 (by decide)) (e 32 (by decide)),
   h.T.e (e 21 (by decide)) (e 22 (by decide)) (e 23 (by decide)) (e 24 (by decide)) (e 25 (by decide)),
   h.J.e (e 1 (by decide)) (e 26 (by decide))⟩
theorem Rp.eqL (h : Rp σ x P G) (e : eqL G' G) : Rp σ x P G' := h.rows (fun r hr => e r (by omega)) (fun k hk => by rw [e 41 (by decide)]; exact h.S.fd k hk)
/-! frames: the same tags at old addresses; numbers and references kept for some tags -/
def frm (SI SR : Nat → Bool) (σ σ2 : Sg) : Prop := (∀ a, sT σ a ≠ 0 → sT σ2 a = sT σ a) ∧ (∀ t a k, SI t = true → sT σ a ≠ 0 → sI σ2 t a k = sI σ t a k) ∧ (∀ t a k, SR t = true → sT σ a ≠ 0 → sR σ2 t a k = sR σ t a k)
theorem frm.tag {SI SR : Nat → Bool} {σ2 : Sg} (f : frm SI SR σ σ2) {a t : Nat} (h : sT σ a = t) (ht : t ≠ 0) : sT σ2 a = t := by rw [f.1 a (by rw [h]; exact ht)]; exact h
theorem frm.num {SI SR : Nat → Bool} {σ2 : Sg} (f : frm SI SR σ σ2) {a t u : Nat} (k : Nat) (h : sT σ a = u) (hu : u ≠ 0) (hs : SI t = true) : sI σ2 t a k = sI σ t a k := f.2.1 t a k hs (by rw [h]; exact hu)
theorem frm.ref {SI SR : Nat → Bool} {σ2 : Sg} (f : frm SI SR σ σ2) {a t u : Nat} (k : Nat) (h : sT σ a = u) (hu : u ≠ 0) (hs : SR t = true) : sR σ2 t a k = sR σ t a k := f.2.2 t a k hs (by rw [h]; exact hu)
variable {SI SR : Nat → Bool} {σ2 : Sg}
theorem FX.f (h : FX σ x P) (f : frm SI SR σ σ2) (h11 : SR 11 = true) (h4 : SR 4 = true) (h8 : SR 8 = true) (h1 : SR 1 = true) : FX σ2 x P := by
  have hx : ∀ {k j t : Nat}, t ≠ 0 → (sR σ 11 x k = some (P 0 j) ∧ sT σ (P 0 j) = t) → sR σ2 11 x k = some (P 0 j) ∧ sT σ2 (P 0 j) = t := fun ht q => ⟨(f.ref _ h.x (by decide) h11).trans q.1, f.tag q.2 ht⟩
  have hb : ∀ {k j t : Nat}, t ≠ 0 → (sR σ 1 (P 0 11) k = some (P 0 j) ∧ sT σ (P 0 j) = t) → sR σ2 1 (P 0 11) k = some (P 0 j) ∧ sT σ2 (P 0 j) = t := fun ht q => ⟨(f.ref _ h.brd.2 (by decide) h1).trans q.1, f.tag q.2 ht⟩
  exact ⟨f.tag h.x (by decide), hx (by decide) h.ships, hx (by decide) h.owners, hx (by decide) h.calls, hx (by decide) h.looks, hx (by decide) h.treaties, hx (by decide) h.tape, hx (by decide) h.wait, hx (by decide) h.fnds, hx (by decide) h.tally, hx (by decide) h.brd, ⟨(f.ref _ h.owners.2 (by decide) h4).trans h.group.1, f.tag h.group.2 (by decide)⟩, ⟨(f.ref _ h.tape.2 (by decide) h8).trans h.bytes.1, f.tag h.bytes.2 (by decide)⟩, hb (by decide) h.b0, hb (by decide) h.b1, hb (by decide) h.b2, hb (by decide) h.b3, hb (by decide) h.b4⟩
theorem SC.f (h : SC σ x P G) (hF : FX σ x P) (f : frm SI SR σ σ2) (h11 : SI 11 = true) (h4 : SI 4 = true) (h8 : sI σ2 8 (P 0 6) 1 = sI σ 8 (P 0 6) 1) (h22 : SI 22 = true) (h25 : SI 25 = true) (h26 : SI 26 = true) : SC σ2 x P G := by
  have hx : ∀ {k : Nat} {v : Int32}, sI σ 11 x k = v → sI σ2 11 x k = v := fun q => (f.num _ hF.x (by decide) h11).trans q
  exact ⟨hx h.shipN, hx h.chN, hx h.caN, hx h.lkN, hx h.trN, hx h.day, hx h.mon, hx h.drN, hx h.wtN, (f.num _ hF.owners.2 (by decide) h4).trans h.wdN, h8.trans h.tpN, fun j hj => (f.num _ hF.bytes.2 (by decide) h22).trans (h.tp j hj), fun j hj => (f.num _ hF.wait.2 (by decide) h25).trans (h.wt j hj), fun j hj => (f.num _ hF.fnds.2 (by decide) h26).trans (h.fd j hj)⟩
theorem OW.f (h : OW σ P G) (hF : FX σ x P) (f : frm SI SR σ σ2) (h20 : SI 20 = true) : OW σ2 P G := fun a ha => (f.num _ hF.group.2 (by decide) h20).trans (h a ha)
theorem chn.f (f : frm SI SR σ σ2) (h9 : SI 9 = true) (h9r : SR 9 = true) {i w : Nat} : ∀ {c p : Nat}, chn σ G i w c p → chn σ2 G i w c p
  | 0, p, h => ⟨f.tag h.1 (by decide), (f.num _ h.1 (by decide) h9).trans h.2.1, (f.ref _ h.1 (by decide) h9r).trans h.2.2⟩
  | c + 1, p, h => by
    unfold chn at h ⊢
    by_cases q : G 7 c = nI (3 * i + w)
    · rw [if_pos q] at h ⊢
      obtain ⟨a, b, d, p2, r, s⟩ := h
      exact ⟨f.tag a (by decide), (f.num _ a (by decide) h9).trans b, (f.num _ a (by decide) h9).trans d, p2, (f.ref _ a (by decide) h9r).trans r, chn.f f h9 h9r s⟩
    · rw [if_neg q] at h ⊢
      exact chn.f f h9 h9r h
theorem SH.f (h : SH σ P G) (hF : FX σ x P) (f : frm SI SR σ σ2) (s6 : SI 6 = true) (s9 : SI 9 = true) (s21 : SI 21 = true) (r5 : SR 5 = true) (r6 : SR 6 = true) (r9 : SR 9 = true) (r32 : SR 32 = true) (r36 : SR 36 = true) : SH σ2 P G := by
  refine ⟨fun i hi => ⟨(f.ref _ hF.ships.2 (by decide) r32).trans (h.at i hi).1, f.tag (h.at i hi).2 (by decide)⟩, fun i hi => (f.num _ (h.at i hi).2 (by decide) s6).trans (h.no i hi), fun i hi => (f.num _ (h.at i hi).2 (by decide) s6).trans (h.kind i hi), fun i hi => (f.num _ (h.at i hi).2 (by decide) s6).trans (h.soc i hi), fun i hi => (f.num _ (h.at i hi).2 (by decide) s6).trans (h.built i hi), fun i hi => ⟨(f.ref _ (h.at i hi).2 (by decide) r6).trans (h.lat i hi).1, f.tag (h.lat i hi).2 (by decide)⟩, fun i hi => ⟨(f.ref _ (h.at i hi).2 (by decide) r6).trans (h.week i hi).1, f.tag (h.week i hi).2 (by decide)⟩, fun i hi => ⟨(f.ref _ (h.week i hi).2 (by decide) r5).trans (h.days i hi).1, f.tag (h.days i hi).2 (by decide)⟩, fun i hi d hd => (f.num _ (h.days i hi).2 (by decide) s21).trans (h.rest i hi d hd), fun i hi => (f.ref _ (h.at i hi).2 (by decide) r6).trans (h.berth i hi), fun i hi => (f.num _ (h.at i hi).2 (by decide) s6).trans (h.last i hi), fun i hi => (f.num _ (h.at i hi).2 (by decide) s6).trans (h.since i hi), fun i hi => (f.num _ (h.at i hi).2 (by decide) s6).trans (h.bans i hi), fun i hi w hw => ?_⟩
  obtain ⟨p, a, b⟩ := h.chain i hi w hw
  exact ⟨p, (f.ref _ (h.lat i hi).2 (by decide) r36).trans a, b.f f s9 r9⟩
theorem CA.f (h : CA σ P G) (hF : FX σ x P) (f : frm SI SR σ σ2) (s2 : SI 2 = true) (r2 : SR 2 = true) (r33 : SR 33 = true) : CA σ2 P G :=
  ⟨fun i hi => ⟨(f.ref _ hF.calls.2 (by decide) r33).trans (h.at i hi).1, f.tag (h.at i hi).2 (by decide)⟩, fun i hi => (f.num _ (h.at i hi).2 (by decide) s2).trans (h.no i hi), fun i hi => (f.ref _ (h.at i hi).2 (by decide) r2).trans (h.ship i hi), fun i hi => (f.num _ (h.at i hi).2 (by decide) s2).trans (h.port i hi), fun i hi => (f.num _ (h.at i hi).2 (by decide) s2).trans (h.from_ i hi), fun i hi => (f.num _ (h.at i hi).2 (by decide) s2).trans (h.over i hi), fun i hi => (f.num _ (h.at i hi).2 (by decide) s2).trans (h.held i hi), fun i hi => (f.num _ (h.at i hi).2 (by decide) s2).trans (h.lks i hi)⟩
theorem LO.f (h : LO σ P G) (hF : FX σ x P) (f : frm SI SR σ σ2) (s3 : SI 3 = true) (r3 : SR 3 = true) (r34 : SR 34 = true) : LO σ2 P G :=
  ⟨fun i hi => ⟨(f.ref _ hF.looks.2 (by decide) r34).trans (h.at i hi).1, f.tag (h.at i hi).2 (by decide)⟩, fun i hi => (f.ref _ (h.at i hi).2 (by decide) r3).trans (h.call i hi), fun i hi => (f.num _ (h.at i hi).2 (by decide) s3).trans (h.by_ i hi), fun i hi => (f.num _ (h.at i hi).2 (by decide) s3).trans (h.on_ i hi), fun i hi => (f.num _ (h.at i hi).2 (by decide) s3).trans (h.flt i hi), fun i hi => (f.num _ (h.at i hi).2 (by decide) s3).trans (h.hold i hi), fun i hi => (f.num _ (h.at i hi).2 (by decide) s3).trans (h.chance i hi)⟩
theorem TR.f (h : TR σ P G) (hF : FX σ x P) (f : frm SI SR σ σ2) (s10 : SI 10 = true) (s23 : SI 23 = true) (s24 : SI 24 = true) (r10 : SR 10 = true) (r35 : SR 35 = true) : TR σ2 P G :=
  ⟨fun i hi => ⟨(f.ref _ hF.treaties.2 (by decide) r35).trans (h.at i hi).1, f.tag (h.at i hi).2 (by decide)⟩, fun i hi => (f.num _ (h.at i hi).2 (by decide) s10).trans (h.from_ i hi), fun i hi => ⟨(f.ref _ (h.at i hi).2 (by decide) r10).trans (h.wts i hi).1, f.tag (h.wts i hi).2 (by decide)⟩, fun i hi => ⟨(f.ref _ (h.at i hi).2 (by decide) r10).trans (h.grv i hi).1, f.tag (h.grv i hi).2 (by decide)⟩, fun i hi => (f.num _ (h.at i hi).2 (by decide) s10).trans (h.lim i hi), fun i hi k hk => (f.num _ (h.wts i hi).2 (by decide) s23).trans (h.wt i hi k hk), fun i hi k hk => (f.num _ (h.grv i hi).2 (by decide) s24).trans (h.gr i hi k hk)⟩
end REPROW

