/-! ===== frames by tag and field; what each piece of the representation needs of them ===== -/
def frk (SI SR : Nat → Nat → Bool) (σ σ2 : Sg) : Prop := (∀ a, sT σ a ≠ 0 → sT σ2 a = sT σ a) ∧ (∀ t a k, SI t k = true → sT σ a ≠ 0 → sI σ2 t a k = sI σ t a k) ∧ (∀ t a k, SR t k = true → sT σ a ≠ 0 → sR σ2 t a k = sR σ t a k)
section FRK
variable {σ σ2 σ3 : Sg} {G G' : GS} {x : Nat} {P : PT} {SI SR : Nat → Nat → Bool}
theorem frk.tag (f : frk SI SR σ σ2) {a t : Nat} (h : sT σ a = t) (ht : t ≠ 0) : sT σ2 a = t := by rw [f.1 a (by rw [h]; exact ht)]; exact h
theorem frk.num (f : frk SI SR σ σ2) {a t u : Nat} (k : Nat) (h : sT σ a = u) (hu : u ≠ 0) (hs : SI t k = true) : sI σ2 t a k = sI σ t a k := f.2.1 t a k hs (by rw [h]; exact hu)
theorem frk.ref (f : frk SI SR σ σ2) {a t u : Nat} (k : Nat) (h : sT σ a = u) (hu : u ≠ 0) (hs : SR t k = true) : sR σ2 t a k = sR σ t a k := f.2.2 t a k hs (by rw [h]; exact hu)
theorem frk.rfl' : frk SI SR σ σ := ⟨fun _ _ => rfl, fun _ _ _ _ _ => rfl, fun _ _ _ _ _ => rfl⟩
theorem frk.trans (f : frk SI SR σ σ2) (g : frk SI SR σ2 σ3) : frk SI SR σ σ3 :=
  ⟨fun a h => (g.1 a (by rw [f.1 a h]; exact h)).trans (f.1 a h), fun t a k hs h => (g.2.1 t a k hs (by rw [f.1 a h]; exact h)).trans (f.2.1 t a k hs h), fun t a k hs h => (g.2.2 t a k hs (by rw [f.1 a h]; exact h)).trans (f.2.2 t a k hs h)⟩
theorem frk.wI {t a k : Nat} {v : Int32} (h : SI t k = false) : frk SI SR σ (wI σ t a k v) :=
  ⟨fun _ _ => rfl, fun t' a' k' hs _ => (by rw [sI_wI, if_neg]; rintro ⟨rfl, -, rfl⟩; exact tf_abs h hs), fun _ _ _ _ _ => rfl⟩
theorem frk.wA {t a : Nat} {v : Nat → Int32} (h : ∀ k, SI t k = false) : frk SI SR σ (wA σ t a v) :=
  ⟨fun _ _ => rfl, fun t' a' k' hs _ => (by rw [sI_wA, if_neg]; rintro ⟨rfl, -⟩; exact tf_abs (h _) hs), fun _ _ _ _ _ => rfl⟩
theorem frk.wR {t a k : Nat} {v : Option Nat} (h : SR t k = false) : frk SI SR σ (wR σ t a k v) :=
  ⟨fun _ _ => rfl, fun _ _ _ _ _ => rfl, fun t' a' k' hs _ => (by rw [sR_wR, if_neg]; rintro ⟨rfl, -, rfl⟩; exact tf_abs h hs)⟩
/-- a write to a cell that is new (its address bore no tag) -/
theorem frk_wIn {t a k : Nat} {v : Int32} (h : sT σ a = 0) : frk SI SR σ (wI σ t a k v) :=
  ⟨fun _ _ => rfl, fun t' a' k' _ hn => (by rw [sI_wI, if_neg]; rintro ⟨-, rfl, -⟩; exact hn h), fun _ _ _ _ _ => rfl⟩
theorem frk.wN {t : Nat} (hlt : ∀ a, sT σ a ≠ 0 → a < sN σ) : frk SI SR σ (wN σ t) :=
  ⟨fun a h => by rw [sT_wN, if_neg (by have := hlt a h; omega)], fun t' a k _ h => by rw [sI_wN, if_neg (by have := hlt a h; omega)], fun t' a k _ h => by rw [sR_wN, if_neg (by have := hlt a h; omega)]⟩
theorem frk.weak {SI2 SR2 : Nat → Nat → Bool} (f : frk SI SR σ σ2) (h1 : ∀ t k, SI2 t k = true → SI t k = true) (h2 : ∀ t k, SR2 t k = true → SR t k = true) : frk SI2 SR2 σ σ2 := ⟨f.1, fun t a k hs h => f.2.1 t a k (h1 t k hs) h, fun t a k hs h => f.2.2 t a k (h2 t k hs) h⟩
theorem frk.all (f : frk (fun _ _ => true) (fun _ _ => true) σ σ2) : frk SI SR σ σ2 := f.weak (fun _ _ _ => rfl) (fun _ _ _ => rfl)
theorem FX.k (h : FX σ x P) (f : frk SI SR σ σ2) (h11 : ∀ k, SR 11 k = true) (h4 : SR 4 0 = true) (h8 : SR 8 0 = true) (h1 : ∀ k, SR 1 k = true) : FX σ2 x P := by
  have hx : ∀ {k j t : Nat}, t ≠ 0 → (sR σ 11 x k = some (P 0 j) ∧ sT σ (P 0 j) = t) → sR σ2 11 x k = some (P 0 j) ∧ sT σ2 (P 0 j) = t := fun ht q => ⟨(f.ref _ h.x (by decide) (h11 _)).trans q.1, f.tag q.2 ht⟩
  have hb : ∀ {k j t : Nat}, t ≠ 0 → (sR σ 1 (P 0 11) k = some (P 0 j) ∧ sT σ (P 0 j) = t) → sR σ2 1 (P 0 11) k = some (P 0 j) ∧ sT σ2 (P 0 j) = t := fun ht q => ⟨(f.ref _ h.brd.2 (by decide) (h1 _)).trans q.1, f.tag q.2 ht⟩
  exact ⟨f.tag h.x (by decide), hx (by decide) h.ships, hx (by decide) h.owners, hx (by decide) h.calls, hx (by decide) h.looks, hx (by decide) h.treaties, hx (by decide) h.tape, hx (by decide) h.wait, hx (by decide) h.fnds, hx (by decide) h.tally, hx (by decide) h.brd, ⟨(f.ref _ h.owners.2 (by decide) h4).trans h.group.1, f.tag h.group.2 (by decide)⟩, ⟨(f.ref _ h.tape.2 (by decide) h8).trans h.bytes.1, f.tag h.bytes.2 (by decide)⟩, hb (by decide) h.b0, hb (by decide) h.b1, hb (by decide) h.b2, hb (by decide) h.b3, hb (by decide) h.b4⟩
theorem OW.k (h : OW σ P G) (hF : FX σ x P) (f : frk SI SR σ σ2) (s : ∀ k, SI 20 k = true) (h10 : G' 10 = G 10) (h11 : G' 11 = G 11) (h12 : G' 12 = G 12) : OW σ2 P G' := fun a ha => by
  rw [show nWd G' = nWd G from gN_e h10 0, grp_e h11 h12]
  exact (f.num _ hF.group.2 (by decide) (s a)).trans (h a ha)
theorem chn.k (f : frk SI SR σ σ2) (s0 : SI 9 0 = true) (s1 : SI 9 1 = true) (r2 : SR 9 2 = true) {i w : Nat} : ∀ {c p : Nat}, chn σ G i w c p → chn σ2 G i w c p
  | 0, p, h => ⟨f.tag h.1 (by decide), (f.num _ h.1 (by decide) s1).trans h.2.1, (f.ref _ h.1 (by decide) r2).trans h.2.2⟩
  | c + 1, p, h => by
    unfold chn at h ⊢
    by_cases q : G 7 c = nI (3 * i + w)
    · rw [if_pos q] at h ⊢
      obtain ⟨a, b, d, p2, r, s⟩ := h
      exact ⟨f.tag a (by decide), (f.num _ a (by decide) s0).trans b, (f.num _ a (by decide) s1).trans d, p2, (f.ref _ a (by decide) r2).trans r, chn.k f s0 s1 r2 s⟩
    · rw [if_neg q] at h ⊢
      exact chn.k f s0 s1 r2 h
theorem SH_at.k (h : SH σ P G) (hF : FX σ x P) (f : frk SI SR σ σ2) (s : ∀ k, SR 32 k = true) (e1 : G' 1 = G 1) : SH_at σ2 P G' := by
  intro i hi
  replace hi : i < nSh G := (show nSh G' = nSh G from gN_e e1 0) ▸ hi
  exact ⟨(f.ref _ hF.ships.2 (by decide) (s i)).trans (h.at i hi).1, f.tag (h.at i hi).2 (by decide)⟩
theorem SH_no.k (h : SH σ P G) (hF : FX σ x P) (f : frk SI SR σ σ2) (s : SI 6 0 = true) (e1 : G' 1 = G 1) : SH_no σ2 P G' := by
  intro i hi
  replace hi : i < nSh G := (show nSh G' = nSh G from gN_e e1 0) ▸ hi
  exact (f.num _ (h.at i hi).2 (by decide) s).trans (h.no i hi)
theorem SH_kind.k (h : SH σ P G) (hF : FX σ x P) (f : frk SI SR σ σ2) (s : SI 6 1 = true) (e1 : G' 1 = G 1) (e2 : G' 2 = G 2) : SH_kind σ2 P G' := by
  intro i hi
  replace hi : i < nSh G := (show nSh G' = nSh G from gN_e e1 0) ▸ hi
  rw [e2]
  exact (f.num _ (h.at i hi).2 (by decide) s).trans (h.kind i hi)
theorem SH_soc.k (h : SH σ P G) (hF : FX σ x P) (f : frk SI SR σ σ2) (s : SI 6 2 = true) (e1 : G' 1 = G 1) (e3 : G' 3 = G 3) : SH_soc σ2 P G' := by
  intro i hi
  replace hi : i < nSh G := (show nSh G' = nSh G from gN_e e1 0) ▸ hi
  rw [e3]
  exact (f.num _ (h.at i hi).2 (by decide) s).trans (h.soc i hi)
theorem SH_built.k (h : SH σ P G) (hF : FX σ x P) (f : frk SI SR σ σ2) (s : SI 6 3 = true) (e1 : G' 1 = G 1) (e4 : G' 4 = G 4) : SH_built σ2 P G' := by
  intro i hi
  replace hi : i < nSh G := (show nSh G' = nSh G from gN_e e1 0) ▸ hi
  rw [e4]
  exact (f.num _ (h.at i hi).2 (by decide) s).trans (h.built i hi)
theorem SH_bans.k (h : SH σ P G) (hF : FX σ x P) (f : frk SI SR σ σ2) (s : SI 6 9 = true) (e1 : G' 1 = G 1) (e37 : G' 37 = G 37) : SH_bans σ2 P G' := by
  intro i hi
  replace hi : i < nSh G := (show nSh G' = nSh G from gN_e e1 0) ▸ hi
  rw [e37]
  exact (f.num _ (h.at i hi).2 (by decide) s).trans (h.bans i hi)
theorem SH_lat.k (h : SH σ P G) (hF : FX σ x P) (f : frk SI SR σ σ2) (s : SR 6 4 = true) (e1 : G' 1 = G 1) : SH_lat σ2 P G' := by
  intro i hi
  replace hi : i < nSh G := (show nSh G' = nSh G from gN_e e1 0) ▸ hi
  exact ⟨(f.ref _ (h.at i hi).2 (by decide) s).trans (h.lat i hi).1, f.tag (h.lat i hi).2 (by decide)⟩
theorem SH_week.k (h : SH σ P G) (hF : FX σ x P) (f : frk SI SR σ σ2) (s : SR 6 5 = true) (e1 : G' 1 = G 1) : SH_week σ2 P G' := by
  intro i hi
  replace hi : i < nSh G := (show nSh G' = nSh G from gN_e e1 0) ▸ hi
  exact ⟨(f.ref _ (h.at i hi).2 (by decide) s).trans (h.week i hi).1, f.tag (h.week i hi).2 (by decide)⟩
theorem SH_days.k (h : SH σ P G) (hF : FX σ x P) (f : frk SI SR σ σ2) (s : SR 5 0 = true) (e1 : G' 1 = G 1) : SH_days σ2 P G' := by
  intro i hi
  replace hi : i < nSh G := (show nSh G' = nSh G from gN_e e1 0) ▸ hi
  exact ⟨(f.ref _ (h.week i hi).2 (by decide) s).trans (h.days i hi).1, f.tag (h.days i hi).2 (by decide)⟩
theorem SH_rest.k (h : SH σ P G) (hF : FX σ x P) (f : frk SI SR σ σ2) (s : ∀ k, SI 21 k = true) (e1 : G' 1 = G 1) (e34 : G' 34 = G 34) : SH_rest σ2 P G' := by
  intro i hi
  replace hi : i < nSh G := (show nSh G' = nSh G from gN_e e1 0) ▸ hi
  intro d hd
  rw [e34]
  exact (f.num _ (h.days i hi).2 (by decide) (s d)).trans (h.rest i hi d hd)
theorem SH_berth.k (h : SH σ P G) (hF : FX σ x P) (f : frk SI SR σ σ2) (s : SR 6 6 = true) (e1 : G' 1 = G 1) (e13 : G' 13 = G 13) (e14 : G' 14 = G 14) (e17 : G' 17 = G 17) : SH_berth σ2 P G' := by
  intro i hi
  replace hi : i < nSh G := (show nSh G' = nSh G from gN_e e1 0) ▸ hi
  rw [openOf_e e13 e14 e17]
  exact (f.ref _ (h.at i hi).2 (by decide) s).trans (h.berth i hi)
theorem SH_last.k (h : SH σ P G) (hF : FX σ x P) (f : frk SI SR σ σ2) (s : SI 6 7 = true) (e1 : G' 1 = G 1) (e14 : G' 14 = G 14) (e26 : G' 26 = G 26) (e27 : G' 27 = G 27) (e29 : G' 29 = G 29) : SH_last σ2 P G' := by
  intro i hi
  replace hi : i < nSh G := (show nSh G' = nSh G from gN_e e1 0) ▸ hi
  rw [show nLk G' = nLk G from gN_e e26 0, lastL_e e14 e27 e29]
  exact (f.num _ (h.at i hi).2 (by decide) s).trans (h.last i hi)
theorem SH_since.k (h : SH σ P G) (hF : FX σ x P) (f : frk SI SR σ σ2) (s : SI 6 8 = true) (e1 : G' 1 = G 1) (e36 : G' 36 = G 36) (e38 : G' 38 = G 38) : SH_since σ2 P G' := by
  intro i hi
  replace hi : i < nSh G := (show nSh G' = nSh G from gN_e e1 0) ▸ hi
  rw [e36, e38]
  exact (f.num _ (h.at i hi).2 (by decide) s).trans (h.since i hi)
theorem SH_chain.k (h : SH σ P G) (hF : FX σ x P) (f : frk SI SR σ σ2) (s : ∀ k, SR 36 k = true) (s0 : SI 9 0 = true) (s1 : SI 9 1 = true) (r2 : SR 9 2 = true) (e1 : G' 1 = G 1) (e5 : G' 5 = G 5) (e6 : G' 6 = G 6) (e7 : G' 7 = G 7) (e8 : G' 8 = G 8) (e9 : G' 9 = G 9) : SH_chain σ2 P G' := by
  intro i hi
  replace hi : i < nSh G := (show nSh G' = nSh G from gN_e e1 0) ▸ hi
  intro w hw
  obtain ⟨p, a, b⟩ := h.chain i hi w hw
  exact ⟨p, (f.ref _ (h.lat i hi).2 (by decide) (s w)).trans a, by rw [show nCh G' = nCh G from gN_e e6 0]; exact (chn_e e5 e7 e8 e9 i w _ p).mpr (b.k f s0 s1 r2)⟩
theorem CA_at.k (h : CA σ P G) (hF : FX σ x P) (f : frk SI SR σ σ2) (s : ∀ k, SR 33 k = true) (e13 : G' 13 = G 13) : CA_at σ2 P G' := by
  intro i hi
  replace hi : i < nCa G := (show nCa G' = nCa G from gN_e e13 0) ▸ hi
  exact ⟨(f.ref _ hF.calls.2 (by decide) (s i)).trans (h.at i hi).1, f.tag (h.at i hi).2 (by decide)⟩
theorem CA_ship.k (h : CA σ P G) (hF : FX σ x P) (f : frk SI SR σ σ2) (s : SR 2 1 = true) (e13 : G' 13 = G 13) (e14 : G' 14 = G 14) : CA_ship σ2 P G' := by
  intro i hi
  replace hi : i < nCa G := (show nCa G' = nCa G from gN_e e13 0) ▸ hi
  rw [gN_e e14]
  exact (f.ref _ (h.at i hi).2 (by decide) s).trans (h.ship i hi)
theorem CA_no.k (h : CA σ P G) (hF : FX σ x P) (f : frk SI SR σ σ2) (s : SI 2 0 = true) (e13 : G' 13 = G 13) : CA_no σ2 P G' := by
  intro i hi
  replace hi : i < nCa G := (show nCa G' = nCa G from gN_e e13 0) ▸ hi
  exact (f.num _ (h.at i hi).2 (by decide) s).trans (h.no i hi)
theorem CA_port.k (h : CA σ P G) (hF : FX σ x P) (f : frk SI SR σ σ2) (s : SI 2 2 = true) (e13 : G' 13 = G 13) (e15 : G' 15 = G 15) : CA_port σ2 P G' := by
  intro i hi
  replace hi : i < nCa G := (show nCa G' = nCa G from gN_e e13 0) ▸ hi
  rw [e15]
  exact (f.num _ (h.at i hi).2 (by decide) s).trans (h.port i hi)
theorem CA_from_.k (h : CA σ P G) (hF : FX σ x P) (f : frk SI SR σ σ2) (s : SI 2 3 = true) (e13 : G' 13 = G 13) (e16 : G' 16 = G 16) : CA_from_ σ2 P G' := by
  intro i hi
  replace hi : i < nCa G := (show nCa G' = nCa G from gN_e e13 0) ▸ hi
  rw [e16]
  exact (f.num _ (h.at i hi).2 (by decide) s).trans (h.from_ i hi)
theorem CA_over.k (h : CA σ P G) (hF : FX σ x P) (f : frk SI SR σ σ2) (s : SI 2 4 = true) (e13 : G' 13 = G 13) (e17 : G' 17 = G 17) : CA_over σ2 P G' := by
  intro i hi
  replace hi : i < nCa G := (show nCa G' = nCa G from gN_e e13 0) ▸ hi
  rw [e17]
  exact (f.num _ (h.at i hi).2 (by decide) s).trans (h.over i hi)
theorem CA_held.k (h : CA σ P G) (hF : FX σ x P) (f : frk SI SR σ σ2) (s : SI 2 5 = true) (e13 : G' 13 = G 13) (e18 : G' 18 = G 18) : CA_held σ2 P G' := by
  intro i hi
  replace hi : i < nCa G := (show nCa G' = nCa G from gN_e e13 0) ▸ hi
  rw [e18]
  exact (f.num _ (h.at i hi).2 (by decide) s).trans (h.held i hi)
theorem CA_lks.k (h : CA σ P G) (hF : FX σ x P) (f : frk SI SR σ σ2) (s : SI 2 6 = true) (e13 : G' 13 = G 13) (e26 : G' 26 = G 26) (e27 : G' 27 = G 27) : CA_lks σ2 P G' := by
  intro i hi
  replace hi : i < nCa G := (show nCa G' = nCa G from gN_e e13 0) ▸ hi
  rw [looksAt_e e26 e27]
  exact (f.num _ (h.at i hi).2 (by decide) s).trans (h.lks i hi)
theorem LO_at.k (h : LO σ P G) (hF : FX σ x P) (f : frk SI SR σ σ2) (s : ∀ k, SR 34 k = true) (e26 : G' 26 = G 26) : LO_at σ2 P G' := by
  intro i hi
  replace hi : i < nLk G := (show nLk G' = nLk G from gN_e e26 0) ▸ hi
  exact ⟨(f.ref _ hF.looks.2 (by decide) (s i)).trans (h.at i hi).1, f.tag (h.at i hi).2 (by decide)⟩
theorem LO_call.k (h : LO σ P G) (hF : FX σ x P) (f : frk SI SR σ σ2) (s : SR 3 0 = true) (e26 : G' 26 = G 26) (e27 : G' 27 = G 27) : LO_call σ2 P G' := by
  intro i hi
  replace hi : i < nLk G := (show nLk G' = nLk G from gN_e e26 0) ▸ hi
  rw [gN_e e27]
  exact (f.ref _ (h.at i hi).2 (by decide) s).trans (h.call i hi)
theorem LO_by_.k (h : LO σ P G) (hF : FX σ x P) (f : frk SI SR σ σ2) (s : SI 3 1 = true) (e26 : G' 26 = G 26) (e28 : G' 28 = G 28) : LO_by_ σ2 P G' := by
  intro i hi
  replace hi : i < nLk G := (show nLk G' = nLk G from gN_e e26 0) ▸ hi
  rw [e28]
  exact (f.num _ (h.at i hi).2 (by decide) s).trans (h.by_ i hi)
theorem LO_on_.k (h : LO σ P G) (hF : FX σ x P) (f : frk SI SR σ σ2) (s : SI 3 2 = true) (e26 : G' 26 = G 26) (e29 : G' 29 = G 29) : LO_on_ σ2 P G' := by
  intro i hi
  replace hi : i < nLk G := (show nLk G' = nLk G from gN_e e26 0) ▸ hi
  rw [e29]
  exact (f.num _ (h.at i hi).2 (by decide) s).trans (h.on_ i hi)
theorem LO_flt.k (h : LO σ P G) (hF : FX σ x P) (f : frk SI SR σ σ2) (s : SI 3 3 = true) (e26 : G' 26 = G 26) (e30 : G' 30 = G 30) : LO_flt σ2 P G' := by
  intro i hi
  replace hi : i < nLk G := (show nLk G' = nLk G from gN_e e26 0) ▸ hi
  rw [e30]
  exact (f.num _ (h.at i hi).2 (by decide) s).trans (h.flt i hi)
theorem LO_hold.k (h : LO σ P G) (hF : FX σ x P) (f : frk SI SR σ σ2) (s : SI 3 4 = true) (e26 : G' 26 = G 26) (e31 : G' 31 = G 31) : LO_hold σ2 P G' := by
  intro i hi
  replace hi : i < nLk G := (show nLk G' = nLk G from gN_e e26 0) ▸ hi
  rw [e31]
  exact (f.num _ (h.at i hi).2 (by decide) s).trans (h.hold i hi)
theorem LO_chance.k (h : LO σ P G) (hF : FX σ x P) (f : frk SI SR σ σ2) (s : SI 3 5 = true) (e26 : G' 26 = G 26) (e32 : G' 32 = G 32) : LO_chance σ2 P G' := by
  intro i hi
  replace hi : i < nLk G := (show nLk G' = nLk G from gN_e e26 0) ▸ hi
  rw [e32]
  exact (f.num _ (h.at i hi).2 (by decide) s).trans (h.chance i hi)
theorem TR_at.k (h : TR σ P G) (hF : FX σ x P) (f : frk SI SR σ σ2) (s : ∀ k, SR 35 k = true) (e21 : G' 21 = G 21) : TR_at σ2 P G' := by
  intro i hi
  replace hi : i < nTr G := (show nTr G' = nTr G from gN_e e21 0) ▸ hi
  exact ⟨(f.ref _ hF.treaties.2 (by decide) (s i)).trans (h.at i hi).1, f.tag (h.at i hi).2 (by decide)⟩
theorem TR_wts.k (h : TR σ P G) (hF : FX σ x P) (f : frk SI SR σ σ2) (s : SR 10 1 = true) (e21 : G' 21 = G 21) : TR_wts σ2 P G' := by
  intro i hi
  replace hi : i < nTr G := (show nTr G' = nTr G from gN_e e21 0) ▸ hi
  exact ⟨(f.ref _ (h.at i hi).2 (by decide) s).trans (h.wts i hi).1, f.tag (h.wts i hi).2 (by decide)⟩
theorem TR_grv.k (h : TR σ P G) (hF : FX σ x P) (f : frk SI SR σ σ2) (s : SR 10 2 = true) (e21 : G' 21 = G 21) : TR_grv σ2 P G' := by
  intro i hi
  replace hi : i < nTr G := (show nTr G' = nTr G from gN_e e21 0) ▸ hi
  exact ⟨(f.ref _ (h.at i hi).2 (by decide) s).trans (h.grv i hi).1, f.tag (h.grv i hi).2 (by decide)⟩
theorem TR_from_.k (h : TR σ P G) (hF : FX σ x P) (f : frk SI SR σ σ2) (s : SI 10 0 = true) (e21 : G' 21 = G 21) (e22 : G' 22 = G 22) : TR_from_ σ2 P G' := by
  intro i hi
  replace hi : i < nTr G := (show nTr G' = nTr G from gN_e e21 0) ▸ hi
  rw [e22]
  exact (f.num _ (h.at i hi).2 (by decide) s).trans (h.from_ i hi)
theorem TR_lim.k (h : TR σ P G) (hF : FX σ x P) (f : frk SI SR σ σ2) (s : SI 10 3 = true) (e21 : G' 21 = G 21) (e23 : G' 23 = G 23) : TR_lim σ2 P G' := by
  intro i hi
  replace hi : i < nTr G := (show nTr G' = nTr G from gN_e e21 0) ▸ hi
  rw [e23]
  exact (f.num _ (h.at i hi).2 (by decide) s).trans (h.lim i hi)
theorem TR_wt.k (h : TR σ P G) (hF : FX σ x P) (f : frk SI SR σ σ2) (s : ∀ k, SI 23 k = true) (e21 : G' 21 = G 21) (e24 : G' 24 = G 24) : TR_wt σ2 P G' := by
  intro i hi
  replace hi : i < nTr G := (show nTr G' = nTr G from gN_e e21 0) ▸ hi
  intro k hk
  rw [e24]
  exact (f.num _ (h.wts i hi).2 (by decide) (s k)).trans (h.wt i hi k hk)
theorem TR_gr.k (h : TR σ P G) (hF : FX σ x P) (f : frk SI SR σ σ2) (s : ∀ k, SI 24 k = true) (e21 : G' 21 = G 21) (e25 : G' 25 = G 25) : TR_gr σ2 P G' := by
  intro i hi
  replace hi : i < nTr G := (show nTr G' = nTr G from gN_e e21 0) ▸ hi
  intro k hk
  rw [e25]
  exact (f.num _ (h.grv i hi).2 (by decide) (s k)).trans (h.gr i hi k hk)
end FRK
