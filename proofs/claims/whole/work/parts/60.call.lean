/-! ===== the class: a call begins ===== -/
/-- what was there is as it was -/
def nw (σ s : Sg) : Prop := (∀ b, b < sN σ → sT s b = sT σ b) ∧ (∀ t b k, b < sN σ → sI s t b k = sI σ t b k) ∧ (∀ t b k, b < sN σ → sR s t b k = sR σ t b k) ∧ sG s = sG σ ∧ sN σ ≤ sN s
section CALL
variable {E : VE} {σ : Sg} {G : GS} {x : Nat} {P : PT} {post : Option Value → Sg → Prop}
theorem nw.frk {s : Sg} {SI SR : Nat → Nat → Bool} (h : nw σ s) (hlt : ∀ a, sT σ a ≠ 0 → a < sN σ) : frk SI SR σ s :=
  ⟨fun a ha => h.1 a (hlt a ha), fun t a k _ ha => h.2.1 t a k (hlt a ha), fun t a k _ ha => h.2.2.1 t a k (hlt a ha)⟩
theorem nw.rfl' : nw σ σ := ⟨fun _ _ => rfl, fun _ _ _ _ => rfl, fun _ _ _ _ => rfl, rfl, Nat.le_refl _⟩
theorem nw.N {s : Sg} (h : nw σ s) (t : Nat) : nw σ (wN s t) :=
  ⟨fun b hb => by rw [sT_wN, if_neg (by have := h.2.2.2.2; omega)]; exact h.1 b hb, fun t b k hb => by rw [sI_wN, if_neg (fun z => by have := h.2.2.2.2; omega)]; exact h.2.1 t b k hb, fun t b k hb => by rw [sR_wN, if_neg (fun z => by have := h.2.2.2.2; omega)]; exact h.2.2.1 t b k hb, h.2.2.2.1, by rw [sN_wN]; have := h.2.2.2.2; omega⟩
theorem nw.I {s : Sg} (h : nw σ s) {t a k : Nat} {v : Int32} (ha : sN σ ≤ a) : nw σ (wI s t a k v) :=
  ⟨h.1, fun t' b k' hb => by rw [sI_wI, if_neg (fun z => by omega)]; exact h.2.1 t' b k' hb, h.2.2.1, h.2.2.2.1, h.2.2.2.2⟩
theorem nw.R {s : Sg} (h : nw σ s) {t a k : Nat} {v : Option Nat} (ha : sN σ ≤ a) : nw σ (wR s t a k v) :=
  ⟨h.1, h.2.1, fun t' b k' hb => by rw [sR_wR, if_neg (fun z => by omega)]; exact h.2.2.1 t' b k' hb, h.2.2.2.1, h.2.2.2.2⟩
def caS (τ : Sg) (a : Nat) (n : Int32) (p : Nat) (port from_ : Int32) : Sg := wI (wI (wR (wI (wI τ 2 a 4 (-1)) 2 a 0 n) 2 a 1 (some p)) 2 a 2 port) 2 a 3 from_
set_option maxRecDepth 100000 in
theorem k_callInit {a p : Nat} (ht : sT σ a = 2) (n port from_ : Int32) (hp : post none (caS σ a n p port from_)) : MX1_init E 1 0 0 [.ref a, .int n, .ref p, .int port, .int from_] σ post := by
  refine MA.of RX1 "<init>" [some (.ref a), some (.int n), some (.ref p), some (.int port), some (.int from_)] rfl rfl rfl (catAll rfl) (Nat.le_of_ble_eq_true rfl) rfl (fun X => ?_)
  refine V.aload_n (i := 0) dX1_init_0 rfl rfl ?_
  refine V.objInit dX1_init_1 wm_X1_1 wi_objectInit wc_objectInit (Nat.le_of_ble_eq_true rfl) (by decide) ?_
  refine V.aload_n (i := 0) dX1_init_4 rfl rfl ?_
  refine V.iconst dX1_init_5 ic_m1 ?_
  refine V.puti dX1_init_6 fl_X1_7 rfl rfl ht ?_
  refine V.aload_n (i := 0) dX1_init_9 rfl rfl ?_
  refine V.iload_n (i := 1) dX1_init_10 rfl rfl ?_
  refine V.putFi dX1_init_11 fl_X1_13 rfl rfl rfl rfl ht ?_
  refine V.aload_n (i := 0) dX1_init_14 rfl rfl ?_
  refine V.aload_n (i := 2) dX1_init_15 rfl rfl ?_
  refine V.putFr dX1_init_16 fl_X1_16 rfl rfl rfl rfl ht ?_
  refine V.aload_n (i := 0) dX1_init_19 rfl rfl ?_
  refine V.iload_n (i := 3) dX1_init_20 rfl rfl ?_
  refine V.putFi dX1_init_21 fl_X1_20 rfl rfl rfl rfl ht ?_
  refine V.aload_n (i := 0) dX1_init_24 rfl rfl ?_
  refine V.iload (i := 4) dX1_init_25 rfl ?_
  refine V.putFi dX1_init_27 fl_X1_23 rfl rfl rfl rfl ht ?_
  refine V.vret dX1_init_30 (Nat.le_of_ble_eq_true rfl) (Nat.le_of_ble_eq_true rfl) ?_
  exact hp
theorem lastL_c {G G' : GS} (i : Nat) : ∀ l, (∀ k, k < l → shipOf G' k = shipOf G k ∧ G' 29 k = G 29 k) → lastL G' i l = lastL G i l
  | 0, _ => rfl
  | l + 1, h => by
    unfold lastL
    rw [(h l (by omega)).1, (h l (by omega)).2, lastL_c i l (fun k hk => h k (by omega))]
def caG (G : GS) (i : Nat) (port : Int32) : GS := u2 (u2 (u2 (u2 (u2 G 14 (nCa G) (nI i)) 15 (nCa G) port) 16 (nCa G) (G 0 0)) 17 (nCa G) (-1)) 13 0 (nI (nCa G + 1))
theorem caG_14 (G : GS) (i : Nat) (port : Int32) (c : Nat) : caG G i port 14 c = if c = nCa G then nI i else G 14 c := u2_at (G := G) (k := 14)
theorem caG_15 (G : GS) (i : Nat) (port : Int32) (c : Nat) : caG G i port 15 c = if c = nCa G then port else G 15 c := u2_at (G := G) (k := 15)
theorem caG_16 (G : GS) (i : Nat) (port : Int32) (c : Nat) : caG G i port 16 c = if c = nCa G then G 0 0 else G 16 c := u2_at (G := G) (k := 16)
theorem caG_17 (G : GS) (i : Nat) (port : Int32) (c : Nat) : caG G i port 17 c = if c = nCa G then -1 else G 17 c := u2_at (G := G) (k := 17)
theorem call_rp {i : Nat} {port : Int32} {σc : Sg} (hR : Rp σ x P G) (hI : Inv G) (hlt : ∀ a, sT σ a ≠ 0 → a < sN σ) (hi : i < nSh G) (hn : nCa G < 50) (ho : openOf G (nI i) = none) (hC : caS (wN σ 2) (sN σ) (nI (nCa G)) (P 1 i) port (G 0 0) = σc) (nC : nw σ σc) (fC : frk (fun _ _ => true) (fun _ _ => true) σ σc) (tC : sT σc (sN σ) = 2) :
    Rp (wI (wR (wR σc 6 (P 1 i) 6 (some (sN σ))) 33 (P 0 3) (nCa G) (some (sN σ))) 11 x 5 (nI (nCa G + 1))) x (u2 P 5 (nCa G) (sN σ)) (caG G i port) := by
  have h16 := hI.shN.2
  have eN : nCa (caG G i port) = nCa G + 1 := tn_nI (by omega)
  have hQ : ∀ c, c < nCa G → u2 P 5 (nCa G) (sN σ) 5 c = P 5 c := fun c hc => by unfold u2; rw [if_neg (by omega)]
  have hQn : u2 P 5 (nCa G) (sN σ) 5 (nCa G) = sN σ := by unfold u2; rw [if_pos ⟨rfl, rfl⟩]
  have f : frk (fun t k => !(decide (t = 11) && decide (k = 5))) (fun t k => !(decide (t = 6) && decide (k = 6)) && decide (t ≠ 33)) σ (wI (wR (wR σc 6 (P 1 i) 6 (some (sN σ))) 33 (P 0 3) (nCa G) (some (sN σ))) 11 x 5 (nI (nCa G + 1))) := ((fC.all.trans (frk.wR rfl)).trans (frk.wR (by simp))).trans (frk.wI rfl)
  have new : ∀ k, sI (wI (wR (wR σc 6 (P 1 i) 6 (some (sN σ))) 33 (P 0 3) (nCa G) (some (sN σ))) 11 x 5 (nI (nCa G + 1))) 2 (sN σ) k = sI (caS (wN σ 2) (sN σ) (nI (nCa G)) (P 1 i) port (G 0 0)) 2 (sN σ) k := fun k => by
    rw [sI_wI, if_neg (by simp), sI_wR, sI_wR, hC]
  have newR : sR (wI (wR (wR σc 6 (P 1 i) 6 (some (sN σ))) 33 (P 0 3) (nCa G) (some (sN σ))) 11 x 5 (nI (nCa G + 1))) 2 (sN σ) 1 = some (P 1 i) := by
    rw [sR_wI, sR_wR, if_neg (by simp), sR_wR, if_neg (by simp), ← hC]
    simp [caS, sR_wI, sR_wR]
  have old : ∀ c, c < nCa G → ∀ k, k ≠ 5 ∨ True → sI (wI (wR (wR σc 6 (P 1 i) 6 (some (sN σ))) 33 (P 0 3) (nCa G) (some (sN σ))) 11 x 5 (nI (nCa G + 1))) 2 (P 5 c) k = sI σ 2 (P 5 c) k := fun c hc k _ => f.num k (hR.C.at c hc).2 (by decide) (by simp)
  generalize hσ' : wI (wR (wR σc 6 (P 1 i) 6 (some (sN σ))) 33 (P 0 3) (nCa G) (some (sN σ))) 11 x 5 (nI (nCa G + 1)) = σ' at f new newR old ⊢
  have split : ∀ {p : Nat → Prop}, (∀ c, c < nCa G → p c) → p (nCa G) → ∀ c, c < nCa (caG G i port) → p c := by
    intro p h1 h2 c hc
    rw [eN] at hc
    by_cases q : c = nCa G
    · rw [q]; exact h2
    · exact h1 c (by omega)
  have sh : ∀ l, l < nLk G → shipOf (caG G i port) l = shipOf G l := fun l hl => by
    have := (hI.lk l hl).2
    show tn (caG G i port 14 (gN G 27 l)) = tn (G 14 (gN G 27 l))
    rw [caG_14, if_neg (by omega)]
  have hC2 : CA σ' (u2 P 5 (nCa G) (sN σ)) (caG G i port) := by
    refine ⟨split (fun c hc => ?_) ?_, split (fun c hc => ?_) ?_, split (fun c hc => ?_) ?_, split (fun c hc => ?_) ?_, split (fun c hc => ?_) ?_, split (fun c hc => ?_) ?_, split (fun c hc => ?_) ?_, split (fun c hc => ?_) ?_⟩
    · rw [hQ c hc]
      refine ⟨?_, f.tag (hR.C.at c hc).2 (by decide)⟩
      show sR σ' 33 (P 0 3) c = _
      rw [← hσ', sR_wI, sR_wR, if_neg (fun z => by have := z.2.2; omega), sR_wR, if_neg (by simp)]
      exact (fC.ref c hR.F.calls.2 (by decide) rfl).trans (hR.C.at c hc).1
    · rw [hQn]
      refine ⟨?_, by rw [← hσ']; exact tC⟩
      show sR σ' 33 (P 0 3) (nCa G) = _
      rw [← hσ', sR_wI, sR_wR, if_pos ⟨rfl, rfl, rfl⟩]
    · rw [hQ c hc]; exact (old c hc 0 (Or.inr trivial)).trans (hR.C.no c hc)
    · rw [hQn, new]; simp [caS, sI_wI, sI_wR]
    · rw [hQ c hc, show gN (caG G i port) 14 c = gN G 14 c by unfold gN; rw [caG_14, if_neg (by omega)]]
      exact (f.ref 1 (hR.C.at c hc).2 (by decide) rfl).trans (hR.C.ship c hc)
    · rw [hQn, show gN (caG G i port) 14 (nCa G) = i by unfold gN; rw [caG_14, if_pos rfl]; exact tn_nI (by omega)]
      exact newR
    · rw [hQ c hc, caG_15, if_neg (by omega)]; exact (old c hc 2 (Or.inr trivial)).trans (hR.C.port c hc)
    · rw [hQn, new, caG_15, if_pos rfl]; simp [caS, sI_wI, sI_wR]
    · rw [hQ c hc, caG_16, if_neg (by omega)]; exact (old c hc 3 (Or.inr trivial)).trans (hR.C.from_ c hc)
    · rw [hQn, new, caG_16, if_pos rfl]; simp [caS, sI_wI, sI_wR]
    · rw [hQ c hc, caG_17, if_neg (by omega)]; exact (old c hc 4 (Or.inr trivial)).trans (hR.C.over c hc)
    · rw [hQn, new, caG_17, if_pos rfl]; simp [caS, sI_wI, sI_wR]
    · rw [hQ c hc]; exact (old c hc 5 (Or.inr trivial)).trans (hR.C.held c hc)
    · rw [hQn, new, show caG G i port 18 (nCa G) = G 18 (nCa G) from rfl, hI.heldZ _ (Nat.le_refl _) hn]; simp [caS, sI_wI, sI_wR, sI_wN]
    · rw [hQ c hc]; exact (old c hc 6 (Or.inr trivial)).trans (hR.C.lks c hc)
    · rw [hQn, new, show looksAt (caG G i port) (nCa G) = 0 from fb_ct_zero.mpr (fun l hl => decide_eq_false (fun e => by
        replace hl : l < nLk G := hl
        replace e : G 27 l = nI (nCa G) := e
        have q := hI.lk l hl
        rw [q.1] at e
        have := (nI_eq (by omega) (by omega)).mp e
        omega))]
      simp [caS, sI_wI, sI_wR, sI_wN]
      rfl
  have hbe : SH_berth σ' (u2 P 5 (nCa G) (sN σ)) (caG G i port) := by
    intro j hj
    replace hj : j < nSh G := hj
    show sR σ' 6 (P 1 j) 6 = _
    have e1 : openOf (caG G i port) (nI j) = openK (caG G i port) (nI j) (nCa G + 1) := by unfold openOf; rw [eN]
    rw [e1, openK, caG_14, caG_17, if_pos rfl, if_pos rfl, ← hσ', sR_wI, sR_wR, if_neg (by simp), sR_wR]
    by_cases q : j = i
    · rw [if_pos ⟨rfl, by rw [q], rfl⟩, if_pos ⟨by rw [q], by decide⟩]
      show _ = some (u2 P 5 (nCa G) (sN σ) 5 (nCa G))
      rw [hQn]
    · rw [if_neg (fun z => q (P1_inj hR hI hj hi z.2.1)), if_neg (fun z => q ((nI_eq (by omega) (by omega)).mp z.1).symm), openK_cg (G := G) (nCa G) (fun c hc => by rw [caG_14, caG_17, if_neg (by omega), if_neg (by omega)])]
      refine ((fC.ref 6 (hR.H.at j hj).2 (by decide) rfl).trans (hR.H.berth j hj)).trans ?_
      show Option.map (P 5) (openK G (nI j) (nCa G)) = _
      cases hk : openK G (nI j) (nCa G) with
      | none => rfl
      | some c =>
        show some (P 5 c) = some (u2 P 5 (nCa G) (sN σ) 5 c)
        rw [hQ c (openK_is _ c hk).1]
  have hla : SH_last σ' (u2 P 5 (nCa G) (sN σ)) (caG G i port) := by
    intro j hj
    replace hj : j < nSh G := hj
    show sI σ' 6 (P 1 j) 7 = lastL (caG G i port) j (nLk G)
    rw [lastL_c j (nLk G) (fun k hk => ⟨sh k hk, rfl⟩)]
    exact (f.num 7 (hR.H.at j hj).2 (by decide) rfl).trans (hR.H.last j hj)
  have hcl : LO_call σ' (u2 P 5 (nCa G) (sN σ)) (caG G i port) := by
    intro l hl
    replace hl : l < nLk G := hl
    show sR σ' 3 (P 6 l) 0 = some (u2 P 5 (nCa G) (sN σ) 5 (gN G 27 l))
    rw [hQ _ (hI.lk l hl).2]
    exact (f.ref 0 (hR.L.at l hl).2 (by decide) rfl).trans (hR.L.call l hl)
  have hch : SH_chain σ' P (caG G i port) := SH_chain.k hR.H hR.F f (fun _ => rfl) rfl rfl rfl rfl rfl rfl rfl rfl rfl
  have hH : SH σ' (u2 P 5 (nCa G) (sN σ)) (caG G i port) := ⟨(SH_at.k (P := P) (G := G) hR.H hR.F f (fun _ => rfl) rfl), (SH_no.k (P := P) (G := G) hR.H hR.F f rfl rfl), (SH_kind.k (P := P) (G := G) hR.H hR.F f rfl rfl rfl), (SH_soc.k (P := P) (G := G) hR.H hR.F f rfl rfl rfl), (SH_built.k (P := P) (G := G) hR.H hR.F f rfl rfl rfl), (SH_lat.k (P := P) (G := G) hR.H hR.F f rfl rfl), (SH_week.k (P := P) (G := G) hR.H hR.F f rfl rfl), (SH_days.k (P := P) (G := G) hR.H hR.F f rfl rfl), (SH_rest.k (P := P) (G := G) hR.H hR.F f (fun _ => rfl) rfl rfl), hbe, hla, (SH_since.k (P := P) (G := G) hR.H hR.F f rfl rfl rfl rfl), (SH_bans.k (P := P) (G := G) hR.H hR.F f rfl rfl rfl), hch⟩
  have hL : LO σ' (u2 P 5 (nCa G) (sN σ)) (caG G i port) := ⟨(LO_at.k (P := P) (G := G) hR.L hR.F f (fun _ => rfl) rfl), hcl, (LO_by_.k (P := P) (G := G) hR.L hR.F f rfl rfl rfl), (LO_on_.k (P := P) (G := G) hR.L hR.F f rfl rfl rfl), (LO_flt.k (P := P) (G := G) hR.L hR.F f rfl rfl rfl), (LO_hold.k (P := P) (G := G) hR.L hR.F f rfl rfl rfl), (LO_chance.k (P := P) (G := G) hR.L hR.F f rfl rfl rfl)⟩
  have hS : SC σ' x (u2 P 5 (nCa G) (sN σ)) (caG G i port) := ⟨((f.num 1 hR.F.x (by decide) rfl).trans hR.S.shipN), ((f.num 2 hR.F.x (by decide) rfl).trans hR.S.chN), (by rw [← hσ', sI_wI, if_pos ⟨rfl, rfl, rfl⟩]; rfl), ((f.num 7 hR.F.x (by decide) rfl).trans hR.S.lkN), ((f.num 9 hR.F.x (by decide) rfl).trans hR.S.trN), ((f.num 11 hR.F.x (by decide) rfl).trans hR.S.day), ((f.num 12 hR.F.x (by decide) rfl).trans hR.S.mon), ((f.num 13 hR.F.x (by decide) rfl).trans hR.S.drN), ((f.num 15 hR.F.x (by decide) rfl).trans hR.S.wtN), ((f.num 1 hR.F.owners.2 (by decide) rfl).trans hR.S.wdN), ((f.num 1 hR.F.tape.2 (by decide) rfl).trans hR.S.tpN), (fun j hj => (f.num j hR.F.bytes.2 (by decide) rfl).trans (hR.S.tp j hj)), (fun j hj => (f.num j hR.F.wait.2 (by decide) rfl).trans (hR.S.wt j hj)), (fun j hj => (f.num j hR.F.fnds.2 (by decide) rfl).trans (hR.S.fd j hj))⟩
  exact ⟨(hR.F.k f (fun _ => rfl) rfl rfl (fun _ => rfl)), hS, (hR.O.k hR.F f (fun _ => rfl) rfl rfl rfl), hH, hC2, hL, ⟨(TR_at.k (P := P) (G := G) hR.T hR.F f (fun _ => rfl) rfl), (TR_from_.k (P := P) (G := G) hR.T hR.F f rfl rfl rfl), (TR_wts.k (P := P) (G := G) hR.T hR.F f rfl rfl), (TR_grv.k (P := P) (G := G) hR.T hR.F f rfl rfl), (TR_lim.k (P := P) (G := G) hR.T hR.F f rfl rfl rfl), (TR_wt.k (P := P) (G := G) hR.T hR.F f (fun _ => rfl) rfl rfl), (TR_gr.k (P := P) (G := G) hR.T hR.F f (fun _ => rfl) rfl rfl)⟩, (hR.J.e rfl rfl)⟩
set_option maxRecDepth 100000 in
theorem k_call (hR : Rp σ x P G) (hI : Inv G) (s port : Int32) (hp : PU x σ (s_call G s port) post) : MX10_call E 3 8 64 [.ref x, .int s, .int port] σ post := by
  refine MA.of RX10 "call" [some (.ref x), some (.int s), some (.int port), none, none] rfl rfl rfl (catAll rfl) (Nat.le_of_ble_eq_true rfl) rfl (fun X => ?_)
  refine V.lt (fun hlt => ?_)
  have h16 := hI.shN.2
  have h50 := hI.caN
  have hdy := hI.day
  by_cases hs : 0 ≤ s.toInt ∧ s.toInt < nSh G
  · obtain ⟨i, hi, rfl⟩ := idxOf hs
    have hb := hR.H.berth i hi
    have hz : (0 ≤ port.toInt ∧ port.toInt ≤ 4) → s_call G (nI i) port = (if openOf G (nI i) ≠ none ∨ G 36 i ≠ 0 then fnd G 3 else if nCa G = 50 then fnd G 4 else
      (nI (nCa G), u2 (u2 (u2 (u2 (u2 G 14 (nCa G) (nI i)) 15 (nCa G) port) 16 (nCa G) (G 0 0)) 17 (nCa G) (-1)) 13 0 (nI (nCa G + 1)))) := fun h => by unfold s_call; rw [tn_nI (by omega), if_pos (by omega)]
    cases ho : openOf G (nI i) with
    | some c =>
      rw [ho] at hb
      refine V.aload_n (i := 0) dX10_call_0 rfl rfl ?_
      refine V.iload_n (i := 1) dX10_call_1 rfl rfl ?_
      refine V.cv1D (ci := 10) dX10_call_2 lk_X10_92 (by decide) rfl hR.F.x (k_shipAtY hR hI i hi ⟨rfl, rfl⟩) (by decide) (by decide) (Nat.le_of_ble_eq_true rfl) (Nat.le_of_ble_eq_true rfl) (Nat.le_of_ble_eq_true rfl) ?_
      refine V.astore_n3 (by decide) dX10_call_5 ?_
      refine V.aload_n (i := 3) dX10_call_6 rfl rfl ?_
      refine V.ifnull dX10_call_7 ?_
      refine V.iload_n (i := 2) dX10_call_10 rfl rfl ?_
      refine V.iconst dX10_call_11 ic_5 ?_
      refine V.cs2D dX10_call_12 lk_X10_96 (k_isBelowN _ 5 (by decide) ⟨rfl, rfl⟩) (by decide) (by decide) (Nat.le_of_ble_eq_true rfl) (Nat.le_of_ble_eq_true rfl) (Nat.le_of_ble_eq_true rfl) ?_
      refine V.ifb_ne (tgt := 24) dX10_call_15 rfl (fun c15 => ?_) (fun c15 => ?_)
      · refine V.aload_n (i := 3) dX10_call_24 rfl rfl ?_
        refine V.getS dX10_call_25 fl_X10_133 rfl (hR.H.at i hi).2 hb ?_
        refine V.ifnonnull (tgt := 38) dX10_call_28 rfl ?_
        refine V.aload_n (i := 0) dX10_call_38 rfl rfl ?_
        refine V.iconst dX10_call_39 ic_3 ?_
        refine V.cv1D (ci := 10) dX10_call_40 lk_X10_82 (by decide) rfl hR.F.x (k_finding hR _ (by decide) ⟨rfl, rfl⟩) (by decide) (by decide) (Nat.le_of_ble_eq_true rfl) (Nat.le_of_ble_eq_true rfl) (Nat.le_of_ble_eq_true rfl) ?_
        refine V.iret dX10_call_43 (Nat.le_of_ble_eq_true rfl) (Nat.le_of_ble_eq_true rfl) ?_
        exact puF hp ((hz (by omega)).trans (if_pos (by first | exact Or.inr c35 | exact Or.inl (by rw [ho]; exact Option.some_ne_none _)))) hR rfl
      · refine V.aload_n (i := 0) dX10_call_18 rfl rfl ?_
        refine V.iconst dX10_call_19 ic_1 ?_
        refine V.cv1D (ci := 10) dX10_call_20 lk_X10_82 (by decide) rfl hR.F.x (k_finding hR _ (by decide) ⟨rfl, rfl⟩) (by decide) (by decide) (Nat.le_of_ble_eq_true rfl) (Nat.le_of_ble_eq_true rfl) (Nat.le_of_ble_eq_true rfl) ?_
        refine V.iret dX10_call_23 (Nat.le_of_ble_eq_true rfl) (Nat.le_of_ble_eq_true rfl) ?_
        exact puF hp (if_neg (by omega)) hR rfl
    | none =>
      rw [ho] at hb
      refine V.aload_n (i := 0) dX10_call_0 rfl rfl ?_
      refine V.iload_n (i := 1) dX10_call_1 rfl rfl ?_
      refine V.cv1D (ci := 10) dX10_call_2 lk_X10_92 (by decide) rfl hR.F.x (k_shipAtY hR hI i hi ⟨rfl, rfl⟩) (by decide) (by decide) (Nat.le_of_ble_eq_true rfl) (Nat.le_of_ble_eq_true rfl) (Nat.le_of_ble_eq_true rfl) ?_
      refine V.astore_n3 (by decide) dX10_call_5 ?_
      refine V.aload_n (i := 3) dX10_call_6 rfl rfl ?_
      refine V.ifnull dX10_call_7 ?_
      refine V.iload_n (i := 2) dX10_call_10 rfl rfl ?_
      refine V.iconst dX10_call_11 ic_5 ?_
      refine V.cs2D dX10_call_12 lk_X10_96 (k_isBelowN _ 5 (by decide) ⟨rfl, rfl⟩) (by decide) (by decide) (Nat.le_of_ble_eq_true rfl) (Nat.le_of_ble_eq_true rfl) (Nat.le_of_ble_eq_true rfl) ?_
      refine V.ifb_ne (tgt := 24) dX10_call_15 rfl (fun c15 => ?_) (fun c15 => ?_)
      · refine V.aload_n (i := 3) dX10_call_24 rfl rfl ?_
        refine V.getN dX10_call_25 fl_X10_133 rfl (hR.H.at i hi).2 hb ?_
        refine V.ifnonnullN dX10_call_28 ?_
        refine V.aload_n (i := 3) dX10_call_31 rfl rfl ?_
        refine V.cv0D (ci := 5) dX10_call_32 lk_X10_137 (by decide) rfl (hR.H.at i hi).2 (k_isBanned hR hI i hi ⟨rfl, rfl⟩) (by decide) (by decide) (Nat.le_of_ble_eq_true rfl) (Nat.le_of_ble_eq_true rfl) (Nat.le_of_ble_eq_true rfl) ?_
        refine V.ifb_eq (tgt := 44) dX10_call_35 rfl (fun c35 => ?_) (fun c35 => ?_)
        · refine V.aload_n (i := 0) dX10_call_44 rfl rfl ?_
          refine V.geti dX10_call_45 fl_X10_141 rfl hR.F.x ?_
          refine V.as _ (hR.S.caN.trans h50.1) ?_
          refine V.bipush dX10_call_48 bc_50 ?_
          refine V.icmp_lt (tgt := 59) dX10_call_50 rfl (fun c50 => ?_) (fun c50 => ?_)
          · rw [nI_ltI (by omega) (by decide)] at c50
            have hn1 : ∀ b, sT σ b ≠ 0 → b ≠ sN σ := fun b hb e => by have := hlt b hb; omega
            have fN : frk (fun _ _ => true) (fun _ _ => true) σ (wN σ 2) := frk.wN hlt
            have hFN := hR.F.k (σ2 := wN σ 2) fN (fun _ => rfl) rfl rfl (fun _ => rfl)
            refine V.new (ci := 1) dX10_call_59 (by decide) wk_X10_22 wx_X1 wn_X1 (by decide) (by decide) ?_
            refine V.dup dX10_call_62 rfl ?_
            refine V.aload_n (i := 0) dX10_call_63 rfl rfl ?_
            refine V.geti dX10_call_64 fl_X10_141 rfl hFN.x ?_
            refine V.as (nI (nCa G)) ((fN.num 5 hR.F.x (by decide) rfl).trans (hR.S.caN.trans h50.1)) ?_
            refine V.aload_n (i := 3) dX10_call_67 rfl rfl ?_
            refine V.iload_n (i := 2) dX10_call_68 rfl rfl ?_
            refine V.aload_n (i := 0) dX10_call_69 rfl rfl ?_
            refine V.geti dX10_call_70 fl_X10_79 rfl hFN.x ?_
            refine V.as (G 0 0) ((fN.num 11 hR.F.x (by decide) rfl).trans hR.S.day) ?_
            refine V.ci4U dX10_call_73 lk_X10_144 (k_callInit (σ := wN σ 2) (a := sN σ) (if_pos rfl) _ _ _ ⟨rfl, rfl⟩) (by decide) (by decide) (Nat.le_of_ble_eq_true rfl) (Nat.le_of_ble_eq_true rfl) (Nat.le_of_ble_eq_true rfl) ?_
            have nC : nw σ (caS (wN σ 2) (sN σ) (nI (nCa G)) (P 1 i) port (G 0 0)) := ((((((nw.rfl').N 2).I (Nat.le_refl _)).I (Nat.le_refl _)).R (Nat.le_refl _)).I (Nat.le_refl _)).I (Nat.le_refl _)
            have tC : sT (caS (wN σ 2) (sN σ) (nI (nCa G)) (P 1 i) port (G 0 0)) (sN σ) = 2 := if_pos rfl
            generalize hC : caS (wN σ 2) (sN σ) (nI (nCa G)) (P 1 i) port (G 0 0) = σc at nC tC ⊢
            have fC : frk (fun _ _ => true) (fun _ _ => true) σ σc := nC.frk hlt
            have hFC := hR.F.k fC (fun _ => rfl) rfl rfl (fun _ => rfl)
            refine V.astore4 (by decide) dX10_call_76 ?_
            refine V.aload_n (i := 3) dX10_call_78 rfl rfl ?_
            refine V.aload (i := 4) dX10_call_79 rfl ?_
            refine V.putr dX10_call_81 fl_X10_133 rfl rfl (fC.tag (hR.H.at i hi).2 (by decide)) ?_
            refine V.aload_n (i := 0) dX10_call_84 rfl rfl ?_
            refine V.getS dX10_call_85 fl_X10_24 rfl hFC.x hFC.calls.1 ?_
            refine V.aload_n (i := 0) dX10_call_88 rfl rfl ?_
            refine V.geti dX10_call_89 fl_X10_141 rfl hFC.x ?_
            refine V.as (nI (nCa G)) ((fC.num 5 hR.F.x (by decide) rfl).trans (hR.S.caN.trans h50.1)) ?_
            refine V.aload (i := 4) dX10_call_92 rfl ?_
            refine V.aast (t := 33) dX10_call_94 hFC.calls.2 (by decide) (by decide) rfl (show _ < 50 from c50) (by decide) tC ?_
            refine V.aload_n (i := 0) dX10_call_95 rfl rfl ?_
            refine V.dup dX10_call_96 rfl ?_
            refine V.geti dX10_call_97 fl_X10_141 rfl hFC.x ?_
            refine V.as (nI (nCa G)) ((fC.num 5 hR.F.x (by decide) rfl).trans (hR.S.caN.trans h50.1)) ?_
            refine V.iconst dX10_call_100 ic_1 ?_
            refine V.iadd dX10_call_101 ?_
            refine V.as _ (nI_add _ _) ?_
            refine V.puti dX10_call_102 fl_X10_141 rfl rfl hFC.x ?_
            refine V.sts (σ' := wI (wR (wR σc 6 (P 1 i) 6 (some (sN σ))) 33 (P 0 3) (nCa G) (some (sN σ))) 11 x 5 (nI (nCa G + 1))) rfl ?_
            refine V.aload (i := 4) dX10_call_105 rfl ?_
            refine V.geti dX10_call_107 fl_X10_147 rfl tC ?_
            refine V.as (nI (nCa G)) (by rw [sI_wI, if_neg (by simp)]; show sI σc 2 (sN σ) 0 = _; rw [← hC]; simp [caS, sI_wI, sI_wR]) ?_
            refine V.iret dX10_call_110 (Nat.le_of_ble_eq_true rfl) (Nat.le_of_ble_eq_true rfl) ?_
            refine pu (P := u2 P 5 (nCa G) (sN σ)) hp ((hz (by omega)).trans ((if_neg (by rintro (z | z); exact z ho; exact c35 z)).trans (if_neg (by omega)))) ?_ (by show sG σc = sG σ; exact nC.2.2.2.1)
            exact call_rp hR hI hlt hi c50 ho hC nC fC tC
          · rw [nI_ltI (by omega) (by decide)] at c50
            refine V.aload_n (i := 0) dX10_call_53 rfl rfl ?_
            refine V.iconst dX10_call_54 ic_4 ?_
            refine V.cv1D (ci := 10) dX10_call_55 lk_X10_82 (by decide) rfl hR.F.x (k_finding hR _ (by decide) ⟨rfl, rfl⟩) (by decide) (by decide) (Nat.le_of_ble_eq_true rfl) (Nat.le_of_ble_eq_true rfl) (Nat.le_of_ble_eq_true rfl) ?_
            refine V.iret dX10_call_58 (Nat.le_of_ble_eq_true rfl) (Nat.le_of_ble_eq_true rfl) ?_
            exact puF hp ((hz (by omega)).trans ((if_neg (by rintro (z | z); exact z ho; exact c35 z)).trans (if_pos (by omega)))) hR rfl
        · refine V.aload_n (i := 0) dX10_call_38 rfl rfl ?_
          refine V.iconst dX10_call_39 ic_3 ?_
          refine V.cv1D (ci := 10) dX10_call_40 lk_X10_82 (by decide) rfl hR.F.x (k_finding hR _ (by decide) ⟨rfl, rfl⟩) (by decide) (by decide) (Nat.le_of_ble_eq_true rfl) (Nat.le_of_ble_eq_true rfl) (Nat.le_of_ble_eq_true rfl) ?_
          refine V.iret dX10_call_43 (Nat.le_of_ble_eq_true rfl) (Nat.le_of_ble_eq_true rfl) ?_
          exact puF hp ((hz (by omega)).trans (if_pos (by first | exact Or.inr c35 | exact Or.inl (by rw [ho]; exact Option.some_ne_none _)))) hR rfl
      · refine V.aload_n (i := 0) dX10_call_18 rfl rfl ?_
        refine V.iconst dX10_call_19 ic_1 ?_
        refine V.cv1D (ci := 10) dX10_call_20 lk_X10_82 (by decide) rfl hR.F.x (k_finding hR _ (by decide) ⟨rfl, rfl⟩) (by decide) (by decide) (Nat.le_of_ble_eq_true rfl) (Nat.le_of_ble_eq_true rfl) (Nat.le_of_ble_eq_true rfl) ?_
        refine V.iret dX10_call_23 (Nat.le_of_ble_eq_true rfl) (Nat.le_of_ble_eq_true rfl) ?_
        exact puF hp (if_neg (by omega)) hR rfl
  · skip
    refine V.aload_n (i := 0) dX10_call_0 rfl rfl ?_
    refine V.iload_n (i := 1) dX10_call_1 rfl rfl ?_
    refine V.cv1D (ci := 10) dX10_call_2 lk_X10_92 (by decide) rfl hR.F.x (k_shipAtN hR hI s hs ⟨rfl, rfl⟩) (by decide) (by decide) (Nat.le_of_ble_eq_true rfl) (Nat.le_of_ble_eq_true rfl) (Nat.le_of_ble_eq_true rfl) ?_
    refine V.astore_n3N (by decide) dX10_call_5 ?_
    refine V.aload_nN (i := 3) dX10_call_6 rfl rfl ?_
    refine V.ifnullN (tgt := 18) dX10_call_7 rfl ?_
    refine V.aload_n (i := 0) dX10_call_18 rfl rfl ?_
    refine V.iconst dX10_call_19 ic_1 ?_
    refine V.cv1D (ci := 10) dX10_call_20 lk_X10_82 (by decide) rfl hR.F.x (k_finding hR _ (by decide) ⟨rfl, rfl⟩) (by decide) (by decide) (Nat.le_of_ble_eq_true rfl) (Nat.le_of_ble_eq_true rfl) (Nat.le_of_ble_eq_true rfl) ?_
    refine V.iret dX10_call_23 (Nat.le_of_ble_eq_true rfl) (Nat.le_of_ble_eq_true rfl) ?_
    exact puF hp (if_neg (fun z => hs z.1)) hR rfl
end CALL

