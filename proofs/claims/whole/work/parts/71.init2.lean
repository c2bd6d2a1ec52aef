/-! ===== at the beginning ===== -/
def G0 : GS := u2 (fun _ _ => 0) 35 0 (nI 36)
theorem G0_z {r j : Nat} (h : r ≠ 35) : G0 r j = 0 := by unfold G0 u2; rw [if_neg (fun z => h z.1)]
theorem G0_n {r : Nat} (h : r ≠ 35) (j : Nat) : gN G0 r j = 0 := by unfold gN; rw [G0_z h]; rfl
theorem G0_sh : nSh G0 = 0 := G0_n (by decide) 0
theorem G0_ch : nCh G0 = 0 := G0_n (by decide) 0
theorem G0_wd : nWd G0 = 0 := G0_n (by decide) 0
theorem G0_ca : nCa G0 = 0 := G0_n (by decide) 0
theorem G0_tp : nTp G0 = 0 := G0_n (by decide) 0
theorem G0_tr : nTr G0 = 0 := G0_n (by decide) 0
theorem G0_lk : nLk G0 = 0 := G0_n (by decide) 0
theorem G0_wt : nWt G0 = 0 := G0_n (by decide) 0
theorem inv_G0 : Inv G0 := by
  refine ⟨?_, ?_, ?_, ?_, ?_, ?_, ?_, ?_, ?_, ?_, ?_, ?_, ?_, ?_, ?_, ?_, ?_, ?_, ?_, ?_, ?_, ?_, ?_, ?_, ?_, ?_, ?_, ?_, ?_, ?_, ?_⟩
  · unfold I_day; rw [G0_z (by decide)]; decide
  · unfold I_shN; rw [G0_sh, G0_z (by decide)]; exact ⟨rfl, by decide⟩
  · intro i hi; rw [G0_sh] at hi; omega
  · intro i hi; rw [G0_sh] at hi; omega
  · intro i hi; rw [G0_sh] at hi; omega
  · unfold I_chN; rw [G0_ch, G0_z (by decide)]; exact ⟨rfl, by decide⟩
  · intro i hi; rw [G0_ch] at hi; omega
  · intro i hi; rw [G0_ch] at hi; omega
  · unfold I_wdN; rw [G0_wd, G0_z (by decide)]; exact ⟨rfl, by decide⟩
  · intro i hi; rw [G0_wd] at hi; omega
  · unfold I_caN; rw [G0_ca, G0_z (by decide)]; exact ⟨rfl, by decide⟩
  · intro i hi; rw [G0_ca] at hi; omega
  · intro i j hi; rw [G0_ca] at hi; omega
  · intro i hi; exact Or.inl (G0_z (by decide))
  · intro i hi hi2; exact G0_z (by decide)
  · unfold I_tpN; rw [G0_tp, G0_z (by decide)]; exact ⟨rfl, by decide⟩
  · unfold I_trN; rw [G0_tr, G0_z (by decide)]; exact ⟨rfl, by decide⟩
  · unfold I_lkN; rw [G0_lk, G0_z (by decide)]; exact ⟨rfl, by decide⟩
  · intro i hi; rw [G0_lk] at hi; omega
  · intro i hi; rw [G0_lk] at hi; omega
  · intro i hi; rw [G0_lk] at hi; omega
  · intro i hi; rw [G0_lk] at hi; omega
  · intro i hi; rw [G0_lk] at hi; omega
  · unfold I_drN; rw [G0_lk, G0_z (by decide)]; rfl
  · intro i hi; rw [G0_n (by decide), G0_z (by decide)]; exact ⟨rfl, by decide⟩
  · intro i hi hi2; exact G0_z (by decide)
  · unfold I_mon; rw [show G0 35 0 = nI 36 from rfl]; decide
  · intro i hi; exact Or.inl (G0_z (by decide))
  · intro i hi hi2; exact ⟨G0_z (by decide), G0_z (by decide)⟩
  · intro i hi h; rw [G0_z (by decide)] at h; cases h
  · unfold I_wtN; rw [G0_wt, G0_z (by decide)]; exact ⟨rfl, by decide⟩
section INIT2
variable {σ : Sg}
def P0 (x : Nat) : PT := fun _ j => x + 1 + j
def c0S (σ : Sg) : Sg := i6S (wN σ 11) (sN σ)
theorem c0_R (k : Nat) (h : k = 0 ∨ k = 3 ∨ k = 4 ∨ k = 6 ∨ k = 8 ∨ k = 10 ∨ k = 14 ∨ k = 16 ∨ k = 17 ∨ k = 18) : sR (c0S σ) 11 (sN σ) k = some (sN σ + 1 + (if k = 0 then 0 else if k = 3 then 1 else if k = 4 then 3 else if k = 6 then 4 else if k = 8 then 5 else if k = 10 then 6 else if k = 14 then 8 else if k = 16 then 9 else if k = 17 then 10 else 11)) := by
  rcases h with rfl | rfl | rfl | rfl | rfl | rfl | rfl | rfl | rfl | rfl <;> simp [c0S, i6S, i5S, i4S, i3S, i2S, i1S, b5S, grS_R, sR_wI, sR_wR, sR_wN, sN_wI, sN_wR, sN_wN, grS_N, Nat.add_assoc]
theorem c0_T (j : Nat) (h : j < 17) : sT (c0S σ) (sN σ + 1 + j) = (if j = 0 then 32 else if j = 1 then 4 else if j = 2 then 20 else if j = 3 then 33 else if j = 4 then 34 else if j = 5 then 35 else if j = 6 then 8 else if j = 7 then 22 else if j = 8 then 25 else if j = 9 then 26 else if j = 10 then 7 else if j = 11 then 1 else 15 + j) := by
  unfold c0S
  rw [i6_T, i5_T, i4_T, i3_T, i2_T, show sN (wN σ 11) = sN σ + 1 from rfl]
  rcases (show j = 0 ∨ j = 1 ∨ j = 2 ∨ j = 3 ∨ j = 4 ∨ j = 5 ∨ j = 6 ∨ j = 7 ∨ j = 8 ∨ j = 9 ∨ j = 10 ∨ j = 11 ∨ j = 12 ∨ j = 13 ∨ j = 14 ∨ j = 15 ∨ j = 16 by omega) with rfl | rfl | rfl | rfl | rfl | rfl | rfl | rfl | rfl | rfl | rfl | rfl | rfl | rfl | rfl | rfl | rfl <;> simp
theorem c0_x : sT (c0S σ) (sN σ) = 11 := by
  unfold c0S
  rw [i6_T, i5_T, i4_T, i3_T, i2_T, show sN (wN σ 11) = sN σ + 1 from rfl]
  simp [Nat.add_assoc, sT_wN]
theorem c0_R2 : sR (c0S σ) 4 (sN σ + 1 + 1) 0 = some (sN σ + 1 + 2) ∧ sR (c0S σ) 8 (sN σ + 1 + 6) 0 = some (sN σ + 1 + 7) := by
  refine ⟨?_, ?_⟩ <;> simp [c0S, i6S, i5S, i4S, i3S, i2S, i1S, b5S, grS_R, sR_wI, sR_wR, sR_wN, sN_wI, sN_wR, sN_wN, grS_N, Nat.add_assoc]
theorem c0_R1 (k : Nat) (h : k < 5) : sR (c0S σ) 1 (sN σ + 1 + 11) k = some (sN σ + 1 + (12 + k)) := by
  rcases (show k = 0 ∨ k = 1 ∨ k = 2 ∨ k = 3 ∨ k = 4 by omega) with rfl | rfl | rfl | rfl | rfl <;> simp [c0S, i6S, i5S, i4S, i3S, i2S, i1S, b5S, grS_R, sR_wI, sR_wR, sR_wN, sN_wI, sN_wR, sN_wN, grS_N, Nat.add_assoc]
theorem c0_F : FX (c0S σ) (sN σ) (P0 (sN σ)) := by
  refine ⟨c0_x, ⟨c0_R 0 (by decide), c0_T 0 (by decide)⟩, ⟨c0_R 3 (by decide), c0_T 1 (by decide)⟩, ⟨c0_R 4 (by decide), c0_T 3 (by decide)⟩, ⟨c0_R 6 (by decide), c0_T 4 (by decide)⟩, ⟨c0_R 8 (by decide), c0_T 5 (by decide)⟩, ⟨c0_R 10 (by decide), c0_T 6 (by decide)⟩, ⟨c0_R 14 (by decide), c0_T 8 (by decide)⟩, ⟨c0_R 16 (by decide), c0_T 9 (by decide)⟩, ⟨c0_R 17 (by decide), c0_T 10 (by decide)⟩, ⟨c0_R 18 (by decide), c0_T 11 (by decide)⟩, ⟨c0_R2.1, c0_T 2 (by decide)⟩, ⟨c0_R2.2, c0_T 7 (by decide)⟩, ⟨c0_R1 0 (by decide), c0_T 12 (by decide)⟩, ⟨c0_R1 1 (by decide), c0_T 13 (by decide)⟩, ⟨c0_R1 2 (by decide), c0_T 14 (by decide)⟩, ⟨c0_R1 3 (by decide), c0_T 15 (by decide)⟩, ⟨c0_R1 4 (by decide), c0_T 16 (by decide)⟩⟩
theorem c0_I (k : Nat) : sI (c0S σ) 11 (sN σ) k = if k = 12 then nI 36 else 0 := by
  simp [c0S, i6S, i5S, i4S, i3S, i2S, i1S, b5S, grS_o, sI_wI, sI_wR, sI_wN, sN_wI, sN_wR, sN_wN, grS_N, Nat.add_assoc]
theorem c0_I4 (k : Nat) : sI (c0S σ) 4 (sN σ + 1 + 1) k = 0 := by
  simp [c0S, i6S, i5S, i4S, i3S, i2S, i1S, b5S, grS_o, sI_wI, sI_wR, sI_wN, sN_wI, sN_wR, sN_wN, grS_N, Nat.add_assoc]
theorem c0_I8 (k : Nat) : sI (c0S σ) 8 (sN σ + 1 + 6) k = 0 := by
  simp [c0S, i6S, i5S, i4S, i3S, i2S, i1S, b5S, grS_o, sI_wI, sI_wR, sI_wN, sN_wI, sN_wR, sN_wN, grS_N, Nat.add_assoc]
theorem c0_I22 (k : Nat) : sI (c0S σ) 22 (sN σ + 1 + 7) k = 0 := by
  simp [c0S, i6S, i5S, i4S, i3S, i2S, i1S, b5S, grS_o, sI_wI, sI_wR, sI_wN, sN_wI, sN_wR, sN_wN, grS_N, Nat.add_assoc]
theorem c0_I25 (k : Nat) : sI (c0S σ) 25 (sN σ + 1 + 8) k = 0 := by
  simp [c0S, i6S, i5S, i4S, i3S, i2S, i1S, b5S, grS_o, sI_wI, sI_wR, sI_wN, sN_wI, sN_wR, sN_wN, grS_N, Nat.add_assoc]
theorem c0_I26 (k : Nat) : sI (c0S σ) 26 (sN σ + 1 + 9) k = 0 := by
  simp [c0S, i6S, i5S, i4S, i3S, i2S, i1S, b5S, grS_o, sI_wI, sI_wR, sI_wN, sN_wI, sN_wR, sN_wN, grS_N, Nat.add_assoc]
theorem c0_I20 (k : Nat) (h : k < 10) : sI (c0S σ) 20 (sN σ + 1 + 2) k = nI k := by
  have e : sI (c0S σ) 20 (sN σ + 1 + 2) k = sI (grS (wN (wN (i1S (wN σ 11) (sN σ)) 4) 20) (sN σ + 1 + 2) 10) 20 (sN σ + 1 + 2) k := by
    simp [c0S, i6S, i5S, i4S, i3S, i2S, b5S, sI_wI, sI_wR, sI_wN, sN_wI, sN_wR, sN_wN, grS_N, Nat.add_assoc]
  rw [e, grS_at, if_pos h]
theorem c0_rp : Rp (c0S σ) (sN σ) (P0 (sN σ)) G0 := by
  refine ⟨c0_F, ?_, ?_, ?_, ?_, ?_, ?_, ?_⟩
  · refine ⟨?_, ?_, ?_, ?_, ?_, ?_, ?_, ?_, ?_, ?_, ?_, fun j _ => ?_, fun j _ => ?_, fun j _ => ?_⟩
    · rw [c0_I, G0_z (by decide)]; rfl
    · rw [c0_I, G0_z (by decide)]; rfl
    · rw [c0_I, G0_z (by decide)]; rfl
    · rw [c0_I, G0_z (by decide)]; rfl
    · rw [c0_I, G0_z (by decide)]; rfl
    · rw [c0_I, G0_z (by decide)]; rfl
    · rw [c0_I]; rfl
    · rw [c0_I, G0_z (by decide)]; rfl
    · rw [c0_I, G0_z (by decide)]; rfl
    · rw [G0_z (by decide)]; exact c0_I4 1
    · rw [G0_z (by decide)]; exact c0_I8 1
    · rw [G0_z (by decide)]; exact c0_I22 j
    · rw [G0_z (by decide)]; exact c0_I25 j
    · rw [G0_z (by decide)]; exact c0_I26 j
  · intro a ha
    rw [G0_wd]
    exact c0_I20 a ha
  · have z : ∀ {p : Prop} (i : Nat), i < nSh G0 → p := fun i hi => by rw [G0_sh] at hi; omega
    exact ⟨fun i hi => z i hi, fun i hi => z i hi, fun i hi => z i hi, fun i hi => z i hi, fun i hi => z i hi, fun i hi => z i hi, fun i hi => z i hi, fun i hi => z i hi, fun i hi => z i hi, fun i hi => z i hi, fun i hi => z i hi, fun i hi => z i hi, fun i hi => z i hi, fun i hi => z i hi⟩
  · have z : ∀ {p : Prop} (i : Nat), i < nCa G0 → p := fun i hi => by rw [G0_ca] at hi; omega
    exact ⟨fun i hi => z i hi, fun i hi => z i hi, fun i hi => z i hi, fun i hi => z i hi, fun i hi => z i hi, fun i hi => z i hi, fun i hi => z i hi, fun i hi => z i hi⟩
  · have z : ∀ {p : Prop} (i : Nat), i < nLk G0 → p := fun i hi => by rw [G0_lk] at hi; omega
    exact ⟨fun i hi => z i hi, fun i hi => z i hi, fun i hi => z i hi, fun i hi => z i hi, fun i hi => z i hi, fun i hi => z i hi, fun i hi => z i hi⟩
  · have z : ∀ {p : Prop} (i : Nat), i < nTr G0 → p := fun i hi => by rw [G0_tr] at hi; omega
    exact ⟨fun i hi => z i hi, fun i hi => z i hi, fun i hi => z i hi, fun i hi => z i hi, fun i hi => z i hi, fun i hi => z i hi, fun i hi => z i hi⟩
  · exact ⟨fun i j hi => by rw [G0_sh] at hi; omega, fun i j hi => by rw [G0_sh] at hi; omega, fun i j hi => by rw [G0_lk] at hi; omega⟩
end INIT2

