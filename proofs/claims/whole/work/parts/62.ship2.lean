/-! ===== the class: a new ship in the representation ===== -/
section SHIP2
variable {E : VE} {σ : Sg} {G : GS} {x : Nat} {P : PT} {post : Option Value → Sg → Prop} {n k c b nm ow fl : Int32}
def nsS (σ : Sg) (n k c b nm ow fl : Int32) : Sg := shS (wN σ 6) (sN σ) n k c b nm ow fl
theorem ns_nw : nw σ (nsS σ n k c b nm ow fl) := by
  have h1 : nw σ (sh2 (wN σ 6) (sN σ)) := ((((((nw.rfl'.N 6).N 36).R (Nat.le_refl _)).N 5).N 21).R (by show sN σ ≤ sN σ + 1 + 1; omega)).R (Nat.le_refl _)
  have h2 : nw σ (sh3 (wN σ 6) (sN σ) n k c b) := (((((h1.I (Nat.le_refl _)).I (Nat.le_refl _)).I (Nat.le_refl _)).I (Nat.le_refl _)).I (Nat.le_refl _)).I (Nat.le_refl _)
  have l3 : sN σ ≤ sN (wN σ 6) + 3 := by rw [sN_wN]; omega
  have l4 : sN σ ≤ sN (wN σ 6) + 4 := by rw [sN_wN]; omega
  have l5 : sN σ ≤ sN (wN σ 6) + 5 := by rw [sN_wN]; omega
  have l0 : sN σ ≤ sN (wN σ 6) := by rw [sN_wN]; omega
  have h4 : nw σ (sh4 (wN σ 6) (sN σ) n k c b nm) := ((((h2.N 9).I l3).I l3).R l3).R l0
  have h5 : nw σ (sh5 (wN σ 6) (sN σ) n k c b nm ow) := ((((h4.N 9).I l4).I l4).R l4).R l0
  exact ((((h5.N 9).I l5).I l5).R l5).R l0
theorem ns_t0 : sT (nsS σ n k c b nm ow fl) (sN σ) = 6 := by simp [nsS, shS, sh5, sh4, sh3, sh2, wkS, trS, sT_wI, sT_wR, sT_wN, sN_wI, sN_wR, sN_wN, Nat.add_assoc]
theorem ns_t1 : sT (nsS σ n k c b nm ow fl) (sN σ + 1) = 36 := by simp [nsS, shS, sh5, sh4, sh3, sh2, wkS, trS, sT_wI, sT_wR, sT_wN, sN_wI, sN_wR, sN_wN, Nat.add_assoc]
theorem ns_t2 : sT (nsS σ n k c b nm ow fl) (sN σ + 2) = 5 := by simp [nsS, shS, sh5, sh4, sh3, sh2, wkS, trS, sT_wI, sT_wR, sT_wN, sN_wI, sN_wR, sN_wN, Nat.add_assoc]
theorem ns_t3 : sT (nsS σ n k c b nm ow fl) (sN σ + 3) = 21 := by simp [nsS, shS, sh5, sh4, sh3, sh2, wkS, trS, sT_wI, sT_wR, sT_wN, sN_wI, sN_wR, sN_wN, Nat.add_assoc]
theorem ns_t4 : sT (nsS σ n k c b nm ow fl) (sN σ + 4) = 9 := by simp [nsS, shS, sh5, sh4, sh3, sh2, wkS, trS, sT_wI, sT_wR, sT_wN, sN_wI, sN_wR, sN_wN, Nat.add_assoc]
theorem ns_t5 : sT (nsS σ n k c b nm ow fl) (sN σ + 5) = 9 := by simp [nsS, shS, sh5, sh4, sh3, sh2, wkS, trS, sT_wI, sT_wR, sT_wN, sN_wI, sN_wR, sN_wN, Nat.add_assoc]
theorem ns_t6 : sT (nsS σ n k c b nm ow fl) (sN σ + 6) = 9 := by simp [nsS, shS, sh5, sh4, sh3, sh2, wkS, trS, sT_wI, sT_wR, sT_wN, sN_wI, sN_wR, sN_wN, Nat.add_assoc]
theorem ns_i : sI (nsS σ n k c b nm ow fl) 6 (sN σ) 0 = n ∧ sI (nsS σ n k c b nm ow fl) 6 (sN σ) 1 = k ∧ sI (nsS σ n k c b nm ow fl) 6 (sN σ) 2 = c ∧ sI (nsS σ n k c b nm ow fl) 6 (sN σ) 3 = b ∧ sI (nsS σ n k c b nm ow fl) 6 (sN σ) 7 = -1 ∧ sI (nsS σ n k c b nm ow fl) 6 (sN σ) 8 = -1 ∧ sI (nsS σ n k c b nm ow fl) 6 (sN σ) 9 = 0 := by
  refine ⟨?_, ?_, ?_, ?_, ?_, ?_, ?_⟩ <;> simp [nsS, shS, sh5, sh4, sh3, sh2, wkS, trS, sI_wI, sI_wR, sI_wN, sN_wI, sN_wR, sN_wN, Nat.add_assoc]
theorem ns_d (d : Nat) : sI (nsS σ n k c b nm ow fl) 21 (sN σ + 3) d = 0 := by simp [nsS, shS, sh5, sh4, sh3, sh2, wkS, trS, sI_wI, sI_wR, sI_wN, sN_wI, sN_wR, sN_wN, Nat.add_assoc]
theorem ns_r : sR (nsS σ n k c b nm ow fl) 6 (sN σ) 4 = some (sN σ + 1) ∧ sR (nsS σ n k c b nm ow fl) 6 (sN σ) 5 = some (sN σ + 2) ∧ sR (nsS σ n k c b nm ow fl) 6 (sN σ) 6 = none ∧ sR (nsS σ n k c b nm ow fl) 5 (sN σ + 2) 0 = some (sN σ + 3) := by
  refine ⟨?_, ?_, ?_, ?_⟩ <;> simp [nsS, shS, sh5, sh4, sh3, sh2, wkS, trS, sR_wI, sR_wR, sR_wN, sN_wI, sN_wR, sN_wN, Nat.add_assoc]
theorem ns_l : sR (nsS σ n k c b nm ow fl) 36 (sN σ + 1) 0 = some (sN σ + 4) ∧ sR (nsS σ n k c b nm ow fl) 36 (sN σ + 1) 2 = some (sN σ + 5) ∧ sR (nsS σ n k c b nm ow fl) 36 (sN σ + 1) 1 = some (sN σ + 6) := by
  refine ⟨?_, ?_, ?_⟩ <;> simp [nsS, shS, sh5, sh4, sh3, sh2, wkS, trS, sR_wI, sR_wR, sR_wN, sN_wI, sN_wR, sN_wN, Nat.add_assoc]
theorem ns_v : sI (nsS σ n k c b nm ow fl) 9 (sN σ + 4) 1 = nm ∧ sI (nsS σ n k c b nm ow fl) 9 (sN σ + 5) 1 = ow ∧ sI (nsS σ n k c b nm ow fl) 9 (sN σ + 6) 1 = fl := by
  refine ⟨?_, ?_, ?_⟩ <;> simp [nsS, shS, sh5, sh4, sh3, sh2, wkS, trS, sI_wI, sI_wR, sI_wN, sN_wI, sN_wR, sN_wN, Nat.add_assoc]
theorem ns_z : sR (nsS σ n k c b nm ow fl) 9 (sN σ + 4) 2 = none ∧ sR (nsS σ n k c b nm ow fl) 9 (sN σ + 5) 2 = none ∧ sR (nsS σ n k c b nm ow fl) 9 (sN σ + 6) 2 = none := by
  refine ⟨?_, ?_, ?_⟩ <;> simp [nsS, shS, sh5, sh4, sh3, sh2, wkS, trS, sR_wI, sR_wR, sR_wN, sN_wI, sN_wR, sN_wN, Nat.add_assoc]
end SHIP2

