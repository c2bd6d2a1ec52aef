/-! ===== the model is made: from now on it is shown by its rows ===== -/
section SWITCH
variable {E : VE} {σ σ0 τ : Sg} {m : Nat}
def mQ (m a0 k : Nat) : Nat := if k = 48 then m else a0 + mJ k
def mE (E : VE) (m a0 : Nat) : VE := (eL E, eD E, eA E, mQ m a0, eS E, true, eH E)
/-- the state with the model's cells shown by rows -/
def mS (τ : Sg) (m : Nat) : Sg := (sN τ, fun b => if m ≤ b then 0 else sT τ b, τ.2.2.1, τ.2.2.2.1, G0)
theorem rA_lt {k : Nat} (h : rA k = true) : k < 48 := by
  unfold rA at h
  split at h <;> first | cases h | exact of_decide_eq_true h
theorem rA_at0 : ∀ k, k < 48 → rA k = true → mJ k < 35 ∧ mF (mJ k) = k ∧ k ≠ 35 := by decide +kernel
theorem rA_at {k : Nat} (h : rA k = true) : mJ k < 35 ∧ mF (mJ k) = k ∧ k ≠ 35 := rA_at0 k (rA_lt h) h
theorem rA_ref : ∀ k, k < 48 → fRef 11 k = rA k := by decide +kernel
theorem rK2 (k : Nat) : rK k < 2 := by unfold rK; split <;> decide
theorem aK_m (k : Nat) : aK (100 + k) = rK k := by
  unfold aK
  split
  · omega
  · omega
  · omega
  · omega
  · omega
  · rw [if_pos (by omega), Nat.add_sub_cancel_left]
theorem aL_m (k : Nat) : aL (100 + k) = rL k := by
  unfold aL
  split <;> first | omega | (rw [if_pos (by omega), Nat.add_sub_cancel_left])
theorem MI.ref (h : MI σ0 m 35 (nI 36) τ) {k : Nat} (hk : rA k = true) : sR τ 12 m k = some (sN σ0 + mJ k) := by
  obtain ⟨h1, h2, -⟩ := rA_at hk
  have q := h.2.2.1 (mJ k) h1
  rw [h2] at q
  exact q
theorem MI.arr (h : MI σ0 m 35 (nI 36) τ) {k : Nat} (hk : rA k = true) : sT τ (sN σ0 + mJ k) = 100 + k ∧ ∀ i, sI τ (100 + k) (sN σ0 + mJ k) i = 0 := by
  obtain ⟨h1, h2, -⟩ := rA_at hk
  refine ⟨?_, fun i => ?_⟩
  · rw [h.2.1, if_pos (by omega), Nat.add_sub_cancel_left, h2]
  · have q := h.2.2.2.1 (mJ k) h1 i
    rw [h2] at q
    exact q
theorem AH.switch {H : Heap} (h : MI σ0 m 35 (nI 36) τ) (hm : sT σ0 m = 12) (hN : sN σ0 = m + 1) (hz : ∀ k, sI σ0 12 m k = 0) (hA : AH E τ H) : AH (mE E m (sN σ0)) (mS τ m) H := by
  have hT : sT τ m = 12 := h.ty0 hm (by omega)
  have ha : ∀ k, rA k = true → (eH E).size ≤ sN σ0 + mJ k ∧ H[sN σ0 + mJ k]? = some (vp_cell (eA E (rK k)) (rL k, .inl (G0 k))) := by
    intro k hk
    have q := hA.cell (h.arr hk).1 (by omega)
    refine ⟨q.1, ?_⟩
    have c := q.2.ai (by omega) (by rw [aK_m]; exact rK2 k)
    rw [aK_m, aL_m] at c
    rw [c]
    have e : sI τ (100 + k) (sN σ0 + mJ k) = G0 k := funext fun i => by rw [(h.arr hk).2 i, G0_z (rA_at hk).2.2]
    rw [e]
  refine ⟨hA.1, hA.2.1, hA.2.2.1, fun a hne => ?_, fun _ => ⟨⟨?_, ?_, ?_, ?_⟩, ?_⟩⟩
  · have hlt : ¬ m ≤ a := fun q => hne (if_pos q)
    have e : sT (mS τ m) a = sT τ a := if_neg hlt
    rw [e] at hne ⊢
    exact hA.2.2.2.1 a hne
  · intro k hk
    show _ ≤ mQ m (sN σ0) k
    unfold mQ
    by_cases e : k = 48
    · rw [if_pos e]; exact (hA.cell hT (by decide)).1
    · rw [if_neg e]
      rcases hk with q | q
      · exact absurd q e
      · exact (ha k q).1
  · intro j k hj hk e
    have e' : mQ m (sN σ0) j = mQ m (sN σ0) k := e
    unfold mQ at e'
    by_cases ej : j = 48
    · by_cases ek : k = 48
      · omega
      · rw [if_pos ej, if_neg ek] at e'; omega
    · by_cases ek : k = 48
      · rw [if_neg ej, if_pos ek] at e'; omega
      · rw [if_neg ej, if_neg ek] at e'
        have q : mJ j = mJ k := by omega
        have h1 := rA_at (hj.resolve_left ej)
        have h2 := rA_at (hk.resolve_left ek)
        rw [← h1.2.1, ← h2.2.1, q]
  · have q := (hA.cell hT (by decide)).2.ob (ci := 11) (by decide)
    refine q.to fun k hk => ?_
    have hk : k < 48 := hk
    show fv τ 12 m k = rV (mQ m (sN σ0)) G0 k
    unfold fv rV
    rw [show (12 : Nat) - 1 = 11 from rfl, rA_ref k hk]
    by_cases e : rA k = true
    · rw [if_pos e, if_pos e, h.ref e]
      show Value.ref _ = _
      unfold mQ
      rw [if_neg (by omega)]
    · rw [if_neg e, if_neg e]
      by_cases e2 : k = 35
      · subst e2
        rw [h.2.2.2.2.2.2.1]; rfl
      · rw [h.2.2.2.2.2.1 k e2, hz, G0_z e2]
  · intro k hk
    show H[mQ m (sN σ0) k]? = _
    unfold mQ
    rw [if_neg (by have := rA_lt hk; omega)]
    exact (ha k hk).2
  · intro k hk
    show (if m ≤ mQ m (sN σ0) k then 0 else _) = 0
    refine if_pos ?_
    unfold mQ
    split <;> omega
theorem V.switch {X : VX} {own mn : String} {cc : ByteArray} {nL : Nat} {ret : Option FieldType} {d mc ms : Nat} {Q : State → Prop} {nc ns pc : Nat} {ls : List (Option Value)} {st : List Value} (h : MI σ0 m 35 (nI 36) τ) (hm : sT σ0 m = 12) (hN : sN σ0 = m + 1) (hz : ∀ k, sI σ0 12 m k = 0)
    (kk : V (mE E m (sN σ0)) X own mn cc nL ret d mc ms Q (mS τ m) nc ns pc ls st) : V E X own mn cc nL ret d mc ms Q τ nc ns pc ls st :=
  fun C H locs arr hA hl hL => kk C H locs arr (hA.switch h hm hN hz) hl hL
/-- the class's cells stay as they were -/
theorem MI.rp {G : GS} {P : PT} {x : Nat} (hR : Rp σ x P G) (hlt : ∀ a, sT σ a ≠ 0 → a < sN σ) (h : MI (wN σ 12) (sN σ) 35 (nI 36) τ) : Rp (mS τ (sN σ)) x P G := by
  have hk : ∀ a, sT σ a ≠ 0 → ∀ t k, sI τ t a k = sI σ t a k ∧ sR τ t a k = sR σ t a k := by
    intro a ha t k
    have q := hlt a ha
    have r := h.2.2.2.2.1 t a k (by rw [sN_wN]; omega) (by omega)
    rw [r.1, r.2, sI_wN, sR_wN, if_neg (by omega), if_neg (by omega)]
    exact ⟨rfl, rfl⟩
  refine hR.frame ⟨fun a ha => ?_, fun t a k _ ha => (hk a ha t k).1, fun t a k _ ha => (hk a ha t k).2⟩
  have q := hlt a ha
  show (if sN σ ≤ a then 0 else sT τ a) = _
  rw [if_neg (by omega), h.2.1, sN_wN, if_neg (by omega), sT_wN, if_neg (by omega)]
end SWITCH

