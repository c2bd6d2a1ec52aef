/-! ===== the class: a ship comes ===== -/
section SHIP3
variable {E : VE} {σ : Sg} {G : GS} {x : Nat} {P : PT} {post : Option Value → Sg → Prop}
theorem chn_no {i w p : Nat} (h : sT σ p = 9 ∧ sI σ 9 p 1 = G 5 (3 * i + w) ∧ sR σ 9 p 2 = none) : ∀ m, (∀ c, c < m → ¬ G 7 c = nI (3 * i + w)) → chn σ G i w m p
  | 0, _ => h
  | m + 1, hm => by
    unfold chn
    rw [if_neg (hm m (by omega))]
    exact chn_no h m (fun c hc => hm c (by omega))
theorem lastL_no {i : Nat} : ∀ m, (∀ l, l < m → shipOf G l ≠ i) → lastL G i m = -1
  | 0, _ => rfl
  | m + 1, h => by
    unfold lastL
    rw [if_neg (h m (by omega))]
    exact lastL_no m (fun l hl => h l (by omega))
def shG (G : GS) (of as : Nat) (on : Int32) : GS := u2 (u2 (u2 (u2 (u2 (u2 (u2 G 2 (nSh G) (nI (of / 10))) 3 (nSh G) (nI (of % 10))) 4 (nSh G) on) 5 (3 * nSh G) (nI (as / 100))) 5 (3 * nSh G + 1) (nI (as % 10))) 5 (3 * nSh G + 2) (nI (as / 10 % 10))) 1 0 (nI (nSh G + 1))
theorem shG_2 (G : GS) (of as : Nat) (on : Int32) (c : Nat) : shG G of as on 2 c = if c = nSh G then nI (of / 10) else G 2 c := u2_at (G := G) (k := 2)
theorem shG_3 (G : GS) (of as : Nat) (on : Int32) (c : Nat) : shG G of as on 3 c = if c = nSh G then nI (of % 10) else G 3 c := u2_at (G := G) (k := 3)
theorem shG_4 (G : GS) (of as : Nat) (on : Int32) (c : Nat) : shG G of as on 4 c = if c = nSh G then on else G 4 c := u2_at (G := G) (k := 4)
theorem shG_5 (G : GS) (of as : Nat) (on : Int32) (c : Nat) : shG G of as on 5 c = if c = 3 * nSh G + 2 then nI (as / 10 % 10) else if c = 3 * nSh G + 1 then nI (as % 10) else if c = 3 * nSh G then nI (as / 100) else G 5 c := by
  show u2 (u2 (u2 G 5 (3 * nSh G) (nI (as / 100))) 5 (3 * nSh G + 1) (nI (as % 10))) 5 (3 * nSh G + 2) (nI (as / 10 % 10)) 5 c = _
  rw [u2_at, u2_at, u2_at]
def shQ (σ : Sg) (P : PT) (n : Nat) : PT := u2 (u2 (u2 (u2 P 1 n (sN σ)) 2 n (sN σ + 1)) 3 n (sN σ + 2)) 4 n (sN σ + 3)
theorem shQ_1 (σ : Sg) (P : PT) (n c : Nat) : shQ σ P n 1 c = if c = n then sN σ else P 1 c := by
  show u2 P 1 n (sN σ) 1 c = _
  unfold u2; by_cases h : c = n <;> simp [h]
theorem shQ_2 (σ : Sg) (P : PT) (n c : Nat) : shQ σ P n 2 c = if c = n then sN σ + 1 else P 2 c := by
  show u2 (u2 P 1 n (sN σ)) 2 n (sN σ + 1) 2 c = _
  unfold u2; by_cases h : c = n <;> simp [h]
theorem shQ_3 (σ : Sg) (P : PT) (n c : Nat) : shQ σ P n 3 c = if c = n then sN σ + 2 else P 3 c := by
  show u2 (u2 (u2 P 1 n (sN σ)) 2 n (sN σ + 1)) 3 n (sN σ + 2) 3 c = _
  unfold u2; by_cases h : c = n <;> simp [h]
theorem shQ_4 (σ : Sg) (P : PT) (n c : Nat) : shQ σ P n 4 c = if c = n then sN σ + 3 else P 4 c := by
  show u2 (u2 (u2 (u2 P 1 n (sN σ)) 2 n (sN σ + 1)) 3 n (sN σ + 2)) 4 n (sN σ + 3) 4 c = _
  unfold u2; by_cases h : c = n <;> simp [h]
def spS (σ : Sg) (x : Nat) (P : PT) (n : Nat) (k c b nm ow fl : Int32) : Sg := wI (wR (nsS σ (nI n) k c b nm ow fl) 32 (P 0 0) n (some (sN σ))) 11 x 1 (nI (n + 1))
theorem ship_rp {of as : Nat} {on : Int32} (hR : Rp σ x P G) (hI : Inv G) (hlt : ∀ a, sT σ a ≠ 0 → a < sN σ) (hn : nSh G < 16) :
    Rp (spS σ x P (nSh G) (nI (of / 10)) (nI (of % 10)) on (nI (as / 100)) (nI (as / 10 % 10)) (nI (as % 10))) x (shQ σ P (nSh G)) (shG G of as on) := by
  have eN : nSh (shG G of as on) = nSh G + 1 := tn_nI (by omega)
  have nN : nw σ (nsS σ (nI (nSh G)) (nI (of / 10)) (nI (of % 10)) on (nI (as / 100)) (nI (as / 10 % 10)) (nI (as % 10))) := ns_nw
  have fC : frk (fun _ _ => true) (fun _ _ => true) σ (nsS σ (nI (nSh G)) (nI (of / 10)) (nI (of % 10)) on (nI (as / 100)) (nI (as / 10 % 10)) (nI (as % 10))) := nN.frk hlt
  have f : frk (fun t k => !(decide (t = 11) && decide (k = 1))) (fun t _ => decide (t ≠ 32)) σ (spS σ x P (nSh G) (nI (of / 10)) (nI (of % 10)) on (nI (as / 100)) (nI (as / 10 % 10)) (nI (as % 10))) := (fC.all.trans (frk.wR (by simp))).trans (frk.wI rfl)
  have sI0 : ∀ t a k, (t ≠ 11) → sI (spS σ x P (nSh G) (nI (of / 10)) (nI (of % 10)) on (nI (as / 100)) (nI (as / 10 % 10)) (nI (as % 10))) t a k = sI (nsS σ (nI (nSh G)) (nI (of / 10)) (nI (of % 10)) on (nI (as / 100)) (nI (as / 10 % 10)) (nI (as % 10))) t a k := fun t a k ht => by
    unfold spS
    rw [sI_wI, if_neg (fun z => ht z.1), sI_wR]
  have sR0 : ∀ t a k, (t ≠ 32) → sR (spS σ x P (nSh G) (nI (of / 10)) (nI (of % 10)) on (nI (as / 100)) (nI (as / 10 % 10)) (nI (as % 10))) t a k = sR (nsS σ (nI (nSh G)) (nI (of / 10)) (nI (of % 10)) on (nI (as / 100)) (nI (as / 10 % 10)) (nI (as % 10))) t a k := fun t a k ht => by
    unfold spS
    rw [sR_wI, sR_wR, if_neg (fun z => ht z.1)]
  have sR32 : ∀ k, sR (spS σ x P (nSh G) (nI (of / 10)) (nI (of % 10)) on (nI (as / 100)) (nI (as / 10 % 10)) (nI (as % 10))) 32 (P 0 0) k = if k = nSh G then some (sN σ) else sR σ 32 (P 0 0) k := fun k => by
    unfold spS
    rw [sR_wI, sR_wR]
    by_cases q : k = nSh G
    · rw [if_pos ⟨rfl, rfl, q⟩, if_pos q]
    · rw [if_neg (fun z => q z.2.2), if_neg q]
      exact fC.ref k hR.F.ships.2 (by decide) rfl
  have sT0 : ∀ a, sT (spS σ x P (nSh G) (nI (of / 10)) (nI (of % 10)) on (nI (as / 100)) (nI (as / 10 % 10)) (nI (as % 10))) a = sT (nsS σ (nI (nSh G)) (nI (of / 10)) (nI (of % 10)) on (nI (as / 100)) (nI (as / 10 % 10)) (nI (as % 10))) a := fun _ => rfl
  have sN1 : sI (spS σ x P (nSh G) (nI (of / 10)) (nI (of % 10)) on (nI (as / 100)) (nI (as / 10 % 10)) (nI (as % 10))) 11 x 1 = nI (nSh G + 1) := by unfold spS; rw [sI_wI, if_pos ⟨rfl, rfl, rfl⟩]
  generalize hσ' : spS σ x P (nSh G) (nI (of / 10)) (nI (of % 10)) on (nI (as / 100)) (nI (as / 10 % 10)) (nI (as % 10)) = σ' at f sI0 sR0 sR32 sT0 sN1 ⊢
  have split : ∀ {p : Nat → Prop}, (∀ c, c < nSh G → p c) → p (nSh G) → ∀ c, c < nSh (shG G of as on) → p c := by
    intro p h1 h2 c hc
    rw [eN] at hc
    by_cases q : c = nSh G
    · rw [q]; exact h2
    · exact h1 c (by omega)
  have q1 : ∀ i, i < nSh G → shQ σ P (nSh G) 1 i = P 1 i := fun i hi => by rw [shQ_1, if_neg (by omega)]
  have q2 : ∀ i, i < nSh G → shQ σ P (nSh G) 2 i = P 2 i := fun i hi => by rw [shQ_2, if_neg (by omega)]
  have q3 : ∀ i, i < nSh G → shQ σ P (nSh G) 3 i = P 3 i := fun i hi => by rw [shQ_3, if_neg (by omega)]
  have q4 : ∀ i, i < nSh G → shQ σ P (nSh G) 4 i = P 4 i := fun i hi => by rw [shQ_4, if_neg (by omega)]
  have n1 : shQ σ P (nSh G) 1 (nSh G) = sN σ := by rw [shQ_1, if_pos rfl]
  have n2 : shQ σ P (nSh G) 2 (nSh G) = sN σ + 1 := by rw [shQ_2, if_pos rfl]
  have n3 : shQ σ P (nSh G) 3 (nSh G) = sN σ + 2 := by rw [shQ_3, if_pos rfl]
  have n4 : shQ σ P (nSh G) 4 (nSh G) = sN σ + 3 := by rw [shQ_4, if_pos rfl]
  have hz := hI.banZ (nSh G) (Nat.le_refl _) hn
  have H := hR.H
  have hH : SH σ' (shQ σ P (nSh G)) (shG G of as on) := by
    refine ⟨split (fun i hi => ?_) ?_, split (fun i hi => ?_) ?_, split (fun i hi => ?_) ?_, split (fun i hi => ?_) ?_, split (fun i hi => ?_) ?_, split (fun i hi => ?_) ?_, split (fun i hi => ?_) ?_, split (fun i hi => ?_) ?_, split (fun i hi => ?_) ?_, split (fun i hi => ?_) ?_, split (fun i hi => ?_) ?_, split (fun i hi => ?_) ?_, split (fun i hi => ?_) ?_, split (fun i hi => ?_) ?_⟩
    · rw [q1 i hi]
      refine ⟨(sR32 i).trans ((if_neg (by omega)).trans (H.at i hi).1), f.tag (H.at i hi).2 (by decide)⟩
    · rw [n1]
      exact ⟨(sR32 _).trans (if_pos rfl), (sT0 _).trans ns_t0⟩
    · rw [q1 i hi]; exact (f.num 0 (H.at i hi).2 (by decide) rfl).trans (H.no i hi)
    · rw [n1, sI0 _ _ _ (by decide)]; exact ns_i.1
    · rw [q1 i hi, shG_2, if_neg (by omega)]; exact (f.num 1 (H.at i hi).2 (by decide) rfl).trans (H.kind i hi)
    · rw [n1, sI0 _ _ _ (by decide), shG_2, if_pos rfl]; exact ns_i.2.1
    · rw [q1 i hi, shG_3, if_neg (by omega)]; exact (f.num 2 (H.at i hi).2 (by decide) rfl).trans (H.soc i hi)
    · rw [n1, sI0 _ _ _ (by decide), shG_3, if_pos rfl]; exact ns_i.2.2.1
    · rw [q1 i hi, shG_4, if_neg (by omega)]; exact (f.num 3 (H.at i hi).2 (by decide) rfl).trans (H.built i hi)
    · rw [n1, sI0 _ _ _ (by decide), shG_4, if_pos rfl]; exact ns_i.2.2.2.1
    · rw [q1 i hi, q2 i hi]; exact ⟨(f.ref 4 (H.at i hi).2 (by decide) rfl).trans (H.lat i hi).1, f.tag (H.lat i hi).2 (by decide)⟩
    · rw [n1, n2, sR0 _ _ _ (by decide)]; exact ⟨ns_r.1, (sT0 _).trans ns_t1⟩
    · rw [q1 i hi, q3 i hi]; exact ⟨(f.ref 5 (H.at i hi).2 (by decide) rfl).trans (H.week i hi).1, f.tag (H.week i hi).2 (by decide)⟩
    · rw [n1, n3, sR0 _ _ _ (by decide)]; exact ⟨ns_r.2.1, (sT0 _).trans ns_t2⟩
    · rw [q3 i hi, q4 i hi]; exact ⟨(f.ref 0 (H.week i hi).2 (by decide) rfl).trans (H.days i hi).1, f.tag (H.days i hi).2 (by decide)⟩
    · rw [n3, n4, sR0 _ _ _ (by decide)]; exact ⟨ns_r.2.2.2, (sT0 _).trans ns_t3⟩
    · intro d hd; rw [q4 i hi]; exact (f.num d (H.days i hi).2 (by decide) rfl).trans (H.rest i hi d hd)
    · intro d hd
      rw [n4, sI0 _ _ _ (by decide), show shG G of as on 34 (7 * nSh G + d) = G 34 (7 * nSh G + d) from rfl, hI.rstZ _ (by omega) (by omega)]
      exact ns_d d
    · rw [q1 i hi, show openOf (shG G of as on) (nI i) = openOf G (nI i) from openOf_e (G' := shG G of as on) (G := G) rfl rfl rfl _, show shQ σ P (nSh G) 5 = P 5 from rfl]
      exact (f.ref 6 (H.at i hi).2 (by decide) rfl).trans (H.berth i hi)
    · rw [n1, sR0 _ _ _ (by decide), show openOf (shG G of as on) (nI (nSh G)) = none from openK_no _ (fun c hc z => by
        replace hc : c < nCa G := hc
        have z1 : G 14 c = nI (nSh G) := z.1
        have q := hI.ca c hc
        rw [q.1] at z1
        have := (nI_eq (by omega) (by omega)).mp z1
        omega)]
      exact ns_r.2.2.1
    · rw [q1 i hi, show lastL (shG G of as on) i (nLk (shG G of as on)) = lastL G i (nLk G) from lastL_e (G' := shG G of as on) (G := G) rfl rfl rfl i _]
      exact (f.num 7 (H.at i hi).2 (by decide) rfl).trans (H.last i hi)
    · rw [n1, sI0 _ _ _ (by decide), lastL_no (G := shG G of as on) (i := nSh G) _ (fun l hl => by
        replace hl : l < nLk G := hl
        have q := (hI.ca _ (hI.lk l hl).2).2
        show gN G 14 (gN G 27 l) ≠ nSh G
        omega)]
      exact ns_i.2.2.2.2.1
    · rw [q1 i hi]; exact (f.num 8 (H.at i hi).2 (by decide) rfl).trans (H.since i hi)
    · rw [n1, sI0 _ _ _ (by decide), if_pos (show shG G of as on 36 (nSh G) = 0 from hz.1)]
      exact ns_i.2.2.2.2.2.1
    · rw [q1 i hi]; exact (f.num 9 (H.at i hi).2 (by decide) rfl).trans (H.bans i hi)
    · rw [n1, sI0 _ _ _ (by decide), show shG G of as on 37 (nSh G) = 0 from hz.2]
      exact ns_i.2.2.2.2.2.2
    · intro w hw
      obtain ⟨p, a, b⟩ := H.chain i hi w hw
      rw [q2 i hi]
      exact ⟨p, (f.ref w (H.lat i hi).2 (by decide) rfl).trans a, (chn_c (G := G) (G' := shG G of as on) (by rw [shG_5, if_neg (by omega), if_neg (by omega), if_neg (by omega)]) _ _ (fun k _ => ⟨rfl, rfl, rfl⟩)).mpr (b.k f rfl rfl rfl)⟩
    · intro w hw
      have no : ∀ c, c < nCh (shG G of as on) → ¬ shG G of as on 7 c = nI (3 * nSh G + w) := fun c hc e => by
        replace hc : c < nCh G := hc
        obtain ⟨k, hk, ek⟩ := hI.chS c hc
        have e1 : G 7 c = nI (3 * nSh G + w) := e
        rw [ek] at e1
        have := (nI_eq (by omega) (by omega)).mp e1
        omega
      rw [n2, sR0 _ _ _ (by decide)]
      rcases (show w = 0 ∨ w = 1 ∨ w = 2 by omega) with rfl | rfl | rfl
      · exact ⟨sN σ + 4, ns_l.1, chn_no ⟨(sT0 _).trans ns_t4, by rw [sI0 _ _ _ (by decide), shG_5, if_neg (by omega), if_neg (by omega), if_pos (by omega)]; exact ns_v.1, by rw [sR0 _ _ _ (by decide)]; exact ns_z.1⟩ _ no⟩
      · exact ⟨sN σ + 6, ns_l.2.2, chn_no ⟨(sT0 _).trans ns_t6, by rw [sI0 _ _ _ (by decide), shG_5, if_neg (by omega), if_pos (by omega)]; exact ns_v.2.2, by rw [sR0 _ _ _ (by decide)]; exact ns_z.2.2⟩ _ no⟩
      · exact ⟨sN σ + 5, ns_l.2.1, chn_no ⟨(sT0 _).trans ns_t5, by rw [sI0 _ _ _ (by decide), shG_5, if_pos (by omega)]; exact ns_v.2.1, by rw [sR0 _ _ _ (by decide)]; exact ns_z.2.1⟩ _ no⟩
  have hcs : CA_ship σ' (shQ σ P (nSh G)) (shG G of as on) := by
    intro c hc
    replace hc : c < nCa G := hc
    show sR σ' 2 (P 5 c) 1 = some (shQ σ P (nSh G) 1 (gN G 14 c))
    rw [q1 _ (hI.ca c hc).2]
    exact (f.ref 1 (hR.C.at c hc).2 (by decide) rfl).trans (hR.C.ship c hc)
  have hC : CA σ' (shQ σ P (nSh G)) (shG G of as on) := ⟨(CA_at.k (P := P) (G := G) hR.C hR.F f (fun _ => rfl) rfl), (CA_no.k (P := P) (G := G) hR.C hR.F f rfl rfl), hcs, (CA_port.k (P := P) (G := G) hR.C hR.F f rfl rfl rfl), (CA_from_.k (P := P) (G := G) hR.C hR.F f rfl rfl rfl), (CA_over.k (P := P) (G := G) hR.C hR.F f rfl rfl rfl), (CA_held.k (P := P) (G := G) hR.C hR.F f rfl rfl rfl), (CA_lks.k (P := P) (G := G) hR.C hR.F f rfl rfl rfl rfl)⟩
  have hS : SC σ' x (shQ σ P (nSh G)) (shG G of as on) := ⟨sN1, ((f.num 2 hR.F.x (by decide) rfl).trans hR.S.chN), ((f.num 5 hR.F.x (by decide) rfl).trans hR.S.caN), ((f.num 7 hR.F.x (by decide) rfl).trans hR.S.lkN), ((f.num 9 hR.F.x (by decide) rfl).trans hR.S.trN), ((f.num 11 hR.F.x (by decide) rfl).trans hR.S.day), ((f.num 12 hR.F.x (by decide) rfl).trans hR.S.mon), ((f.num 13 hR.F.x (by decide) rfl).trans hR.S.drN), ((f.num 15 hR.F.x (by decide) rfl).trans hR.S.wtN), ((f.num 1 hR.F.owners.2 (by decide) rfl).trans hR.S.wdN), ((f.num 1 hR.F.tape.2 (by decide) rfl).trans hR.S.tpN), (fun j hj => (f.num j hR.F.bytes.2 (by decide) rfl).trans (hR.S.tp j hj)), (fun j hj => (f.num j hR.F.wait.2 (by decide) rfl).trans (hR.S.wt j hj)), (fun j hj => (f.num j hR.F.fnds.2 (by decide) rfl).trans (hR.S.fd j hj))⟩
  have lt2 : ∀ i, i < nSh G → P 2 i < sN σ := fun i hi => hlt _ (by rw [(H.lat i hi).2]; decide)
  have lt4 : ∀ i, i < nSh G → P 4 i < sN σ := fun i hi => hlt _ (by rw [(H.days i hi).2]; decide)
  have hJ : NJ (shQ σ P (nSh G)) (shG G of as on) := by
    refine ⟨fun i j hi hj e => ?_, fun i j hi hj e => ?_, hR.J.2.2⟩
    · rw [eN] at hi hj
      rw [shQ_2, shQ_2] at e
      by_cases a : i = nSh G <;> by_cases b : j = nSh G
      · omega
      · rw [if_pos a, if_neg b] at e; have := lt2 j (by omega); omega
      · rw [if_neg a, if_pos b] at e; have := lt2 i (by omega); omega
      · rw [if_neg a, if_neg b] at e; exact hR.J.1 i j (by omega) (by omega) e
    · rw [eN] at hi hj
      rw [shQ_4, shQ_4] at e
      by_cases a : i = nSh G <;> by_cases b : j = nSh G
      · omega
      · rw [if_pos a, if_neg b] at e; have := lt4 j (by omega); omega
      · rw [if_neg a, if_pos b] at e; have := lt4 i (by omega); omega
      · rw [if_neg a, if_neg b] at e; exact hR.J.2.1 i j (by omega) (by omega) e
  exact ⟨(hR.F.k f (fun _ => rfl) rfl rfl (fun _ => rfl)), hS, (hR.O.k hR.F f (fun _ => rfl) rfl rfl rfl), hH, hC, ⟨(LO_at.k (P := P) (G := G) hR.L hR.F f (fun _ => rfl) rfl), (LO_call.k (P := P) (G := G) hR.L hR.F f rfl rfl rfl), (LO_by_.k (P := P) (G := G) hR.L hR.F f rfl rfl rfl), (LO_on_.k (P := P) (G := G) hR.L hR.F f rfl rfl rfl), (LO_flt.k (P := P) (G := G) hR.L hR.F f rfl rfl rfl), (LO_hold.k (P := P) (G := G) hR.L hR.F f rfl rfl rfl), (LO_chance.k (P := P) (G := G) hR.L hR.F f rfl rfl rfl)⟩, ⟨(TR_at.k (P := P) (G := G) hR.T hR.F f (fun _ => rfl) rfl), (TR_from_.k (P := P) (G := G) hR.T hR.F f rfl rfl rfl), (TR_wts.k (P := P) (G := G) hR.T hR.F f rfl rfl), (TR_grv.k (P := P) (G := G) hR.T hR.F f rfl rfl), (TR_lim.k (P := P) (G := G) hR.T hR.F f rfl rfl rfl), (TR_wt.k (P := P) (G := G) hR.T hR.F f (fun _ => rfl) rfl rfl), (TR_gr.k (P := P) (G := G) hR.T hR.F f (fun _ => rfl) rfl rfl)⟩, hJ⟩
set_option maxRecDepth 100000 in
theorem k_ship (hR : Rp σ x P G) (hI : Inv G) (of as on : Int32) (hp : PU x σ (s_ship G of as on) post) : MX10_ship E 3 8 64 [.ref x, .int of, .int as, .int on] σ post := by
  refine MA.of RX10 "ship" [some (.ref x), some (.int of), some (.int as), some (.int on)] rfl rfl rfl (catAll rfl) (Nat.le_of_ble_eq_true rfl) rfl (fun X => ?_)
  refine V.lt (fun hlt => ?_)
  have h16 := hI.shN
  refine V.iload_n (i := 1) dX10_ship_0 rfl rfl ?_
  refine V.cs1D dX10_ship_1 lk_X10_72 (k_isKindAndClass of ⟨rfl, rfl⟩) (by decide) (by decide) (Nat.le_of_ble_eq_true rfl) (Nat.le_of_ble_eq_true rfl) (Nat.le_of_ble_eq_true rfl) ?_
  refine V.ifb_eq (tgt := 26) dX10_ship_4 rfl (fun c4 => ?_) (fun c4 => ?_)
  · refine V.aload_n (i := 0) dX10_ship_26 rfl rfl ?_
    refine V.iconst dX10_ship_27 ic_1 ?_
    refine V.cv1D (ci := 10) dX10_ship_28 lk_X10_82 (by decide) rfl hR.F.x (k_finding hR _ (by decide) ⟨rfl, rfl⟩) (by decide) (by decide) (Nat.le_of_ble_eq_true rfl) (Nat.le_of_ble_eq_true rfl) (Nat.le_of_ble_eq_true rfl) ?_
    refine V.iret dX10_ship_31 (Nat.le_of_ble_eq_true rfl) (Nat.le_of_ble_eq_true rfl) ?_
    exact puF hp (if_neg (by omega)) hR rfl
  · refine V.iload_n (i := 2) dX10_ship_7 rfl rfl ?_
    refine V.cs1D dX10_ship_8 lk_X10_76 (k_isNameOwnerAndFlag as ⟨rfl, rfl⟩) (by decide) (by decide) (Nat.le_of_ble_eq_true rfl) (Nat.le_of_ble_eq_true rfl) (Nat.le_of_ble_eq_true rfl) ?_
    refine V.ifb_eq (tgt := 26) dX10_ship_11 rfl (fun c11 => ?_) (fun c11 => ?_)
    · refine V.aload_n (i := 0) dX10_ship_26 rfl rfl ?_
      refine V.iconst dX10_ship_27 ic_1 ?_
      refine V.cv1D (ci := 10) dX10_ship_28 lk_X10_82 (by decide) rfl hR.F.x (k_finding hR _ (by decide) ⟨rfl, rfl⟩) (by decide) (by decide) (Nat.le_of_ble_eq_true rfl) (Nat.le_of_ble_eq_true rfl) (Nat.le_of_ble_eq_true rfl) ?_
      refine V.iret dX10_ship_31 (Nat.le_of_ble_eq_true rfl) (Nat.le_of_ble_eq_true rfl) ?_
      exact puF hp (if_neg (by omega)) hR rfl
    · refine V.iload_n (i := 3) dX10_ship_14 rfl rfl ?_
      refine V.if_lt (tgt := 26) dX10_ship_15 rfl (fun c15 => ?_) (fun c15 => ?_)
      · rw [lt0] at c15
        refine V.aload_n (i := 0) dX10_ship_26 rfl rfl ?_
        refine V.iconst dX10_ship_27 ic_1 ?_
        refine V.cv1D (ci := 10) dX10_ship_28 lk_X10_82 (by decide) rfl hR.F.x (k_finding hR _ (by decide) ⟨rfl, rfl⟩) (by decide) (by decide) (Nat.le_of_ble_eq_true rfl) (Nat.le_of_ble_eq_true rfl) (Nat.le_of_ble_eq_true rfl) ?_
        refine V.iret dX10_ship_31 (Nat.le_of_ble_eq_true rfl) (Nat.le_of_ble_eq_true rfl) ?_
        exact puF hp (if_neg (by omega)) hR rfl
      · rw [lt0] at c15
        refine V.iload_n (i := 3) dX10_ship_18 rfl rfl ?_
        refine V.aload_n (i := 0) dX10_ship_19 rfl rfl ?_
        refine V.geti dX10_ship_20 fl_X10_79 rfl hR.F.x ?_
        refine V.icmp_le (tgt := 32) dX10_ship_23 rfl (fun c23 => ?_) (fun c23 => ?_)
        · rw [hR.S.day, fa_le] at c23
          obtain ⟨o, ho, rfl⟩ := idxOf (x := of) (n := 40) (by omega)
          obtain ⟨a, ha, rfl⟩ := idxOf (x := as) (n := 10000) (by omega)
          have hz : s_ship G (nI o) (nI a) on = (if nSh G = 16 then fnd G 4 else (nI (nSh G), shG G o a on)) := by unfold s_ship; rw [tn_nI (by omega), tn_nI (by omega), if_pos (by omega)]; rfl
          refine V.aload_n (i := 0) dX10_ship_32 rfl rfl ?_
          refine V.geti dX10_ship_33 fl_X10_86 rfl hR.F.x ?_
          refine V.as _ (hR.S.shipN.trans h16.1) ?_
          refine V.bipush dX10_ship_36 bc_16 ?_
          refine V.icmp_lt (tgt := 47) dX10_ship_38 rfl (fun c38 => ?_) (fun c38 => ?_)
          · rw [nI_ltI (by omega) (by decide)] at c38
            refine V.aload_n (i := 0) dX10_ship_47 rfl rfl ?_
            refine V.getS dX10_ship_48 fl_X10_11 rfl hR.F.x hR.F.ships.1 ?_
            refine V.aload_n (i := 0) dX10_ship_51 rfl rfl ?_
            refine V.geti dX10_ship_52 fl_X10_86 rfl hR.F.x ?_
            refine V.as _ (hR.S.shipN.trans h16.1) ?_
            have fN : frk (fun _ _ => true) (fun _ _ => true) σ (wN σ 6) := frk.wN hlt
            refine V.new (ci := 5) dX10_ship_55 (by decide) wk_X10_9 wx_X5 wn_X5 (by decide) (by decide) ?_
            refine V.dup dX10_ship_58 rfl ?_
            refine V.aload_n (i := 0) dX10_ship_59 rfl rfl ?_
            refine V.geti dX10_ship_60 fl_X10_86 rfl (fN.tag hR.F.x (by decide)) ?_
            refine V.as (nI (nSh G)) ((fN.num 1 hR.F.x (by decide) rfl).trans (hR.S.shipN.trans h16.1)) ?_
            refine V.iload_n (i := 1) dX10_ship_63 rfl rfl ?_
            refine V.iload_n (i := 2) dX10_ship_64 rfl rfl ?_
            refine V.iload_n (i := 3) dX10_ship_65 rfl rfl ?_
            refine V.ci4U dX10_ship_66 lk_X10_89 (k_shipInit (σ := wN σ 6) (a := sN σ) (if_pos rfl) (Nat.lt_succ_self _) _ _ o a ho ha ⟨rfl, rfl⟩) (by decide) (by decide) (Nat.le_of_ble_eq_true rfl) (Nat.le_of_ble_eq_true rfl) (Nat.le_of_ble_eq_true rfl) ?_
            refine V.sts (σ' := nsS σ (nI (nSh G)) (nI (o / 10)) (nI (o % 10)) on (nI (a / 100)) (nI (a / 10 % 10)) (nI (a % 10))) rfl ?_
            have fC : frk (fun _ _ => true) (fun _ _ => true) σ (nsS σ (nI (nSh G)) (nI (o / 10)) (nI (o % 10)) on (nI (a / 100)) (nI (a / 10 % 10)) (nI (a % 10))) := ns_nw.frk hlt
            have hgn : sG (nsS σ (nI (nSh G)) (nI (o / 10)) (nI (o % 10)) on (nI (a / 100)) (nI (a / 10 % 10)) (nI (a % 10))) = sG σ := (ns_nw (n := nI (nSh G)) (k := nI (o / 10)) (c := nI (o % 10)) (b := on) (nm := nI (a / 100)) (ow := nI (a / 10 % 10)) (fl := nI (a % 10))).2.2.2.1
            refine V.aast (t := 32) dX10_ship_69 (fC.tag hR.F.ships.2 (by decide)) (by decide) (by decide) rfl (show _ < 16 from (by omega)) (by decide) ns_t0 ?_
            refine V.aload_n (i := 0) dX10_ship_70 rfl rfl ?_
            refine V.dup dX10_ship_71 rfl ?_
            refine V.geti dX10_ship_72 fl_X10_86 rfl (fC.tag hR.F.x (by decide)) ?_
            refine V.as (nI (nSh G)) ((fC.num 1 hR.F.x (by decide) rfl).trans (hR.S.shipN.trans h16.1)) ?_
            refine V.iconst dX10_ship_75 ic_1 ?_
            refine V.iadd dX10_ship_76 ?_
            refine V.as _ (nI_add _ _) ?_
            refine V.puti dX10_ship_77 fl_X10_86 rfl rfl (fC.tag hR.F.x (by decide)) ?_
            refine V.sts (σ' := spS σ x P (nSh G) (nI (o / 10)) (nI (o % 10)) on (nI (a / 100)) (nI (a / 10 % 10)) (nI (a % 10))) rfl ?_
            refine V.aload_n (i := 0) dX10_ship_80 rfl rfl ?_
            refine V.geti dX10_ship_81 fl_X10_86 rfl (fC.tag hR.F.x (by decide)) ?_
            refine V.as (nI (nSh G + 1)) (by unfold spS; rw [sI_wI, if_pos ⟨rfl, rfl, rfl⟩]) ?_
            refine V.iconst dX10_ship_84 ic_1 ?_
            refine V.isub dX10_ship_85 ?_
            refine V.as (nI (nSh G)) (show nI (nSh G + 1) - nI 1 = _ from pk_sub (by omega)) ?_
            refine V.iret dX10_ship_86 (Nat.le_of_ble_eq_true rfl) (Nat.le_of_ble_eq_true rfl) ?_
            exact pu hp (hz.trans (if_neg (by omega))) (ship_rp hR hI hlt c38) hgn
          · rw [nI_ltI (by omega) (by decide)] at c38
            refine V.aload_n (i := 0) dX10_ship_41 rfl rfl ?_
            refine V.iconst dX10_ship_42 ic_4 ?_
            refine V.cv1D (ci := 10) dX10_ship_43 lk_X10_82 (by decide) rfl hR.F.x (k_finding hR _ (by decide) ⟨rfl, rfl⟩) (by decide) (by decide) (Nat.le_of_ble_eq_true rfl) (Nat.le_of_ble_eq_true rfl) (Nat.le_of_ble_eq_true rfl) ?_
            refine V.iret dX10_ship_46 (Nat.le_of_ble_eq_true rfl) (Nat.le_of_ble_eq_true rfl) ?_
            exact puF hp (hz.trans (if_pos (by omega))) hR rfl
        · rw [hR.S.day, fa_le] at c23
          refine V.aload_n (i := 0) dX10_ship_26 rfl rfl ?_
          refine V.iconst dX10_ship_27 ic_1 ?_
          refine V.cv1D (ci := 10) dX10_ship_28 lk_X10_82 (by decide) rfl hR.F.x (k_finding hR _ (by decide) ⟨rfl, rfl⟩) (by decide) (by decide) (Nat.le_of_ble_eq_true rfl) (Nat.le_of_ble_eq_true rfl) (Nat.le_of_ble_eq_true rfl) ?_
          refine V.iret dX10_ship_31 (Nat.le_of_ble_eq_true rfl) (Nat.le_of_ble_eq_true rfl) ?_
          exact puF hp (if_neg (by omega)) hR rfl
end SHIP3

