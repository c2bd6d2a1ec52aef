/-! ===== a row of numbers copied onto another one ===== -/
theorem wm_X0_38 : Cond.methodLink RX0 38 arraycopyName ∈ BIG := big_in 638 (by decide +kernel) rfl
theorem wt_acopy : Cond.static arraycopyName ∈ BIG := big_in 639 (by decide +kernel) rfl
theorem wn_acopy : Cond.native arraycopyName ∈ BIG := big_in 640 (by decide +kernel) rfl
theorem wi_system : Cond.initialized "java/lang/System" ∈ BIG := big_in 61 (by decide +kernel) rfl
theorem V.acopy {E : VE} {X : VX} {own mn : String} {cc : ByteArray} {nL : Nat} {ret : Option FieldType} {d mc ms : Nat} {Q : State → Prop} {σ : Sg} {nc ns pc : Nat} {ls : List (Option Value)} {idx : Nat} {rest : List Value} {a0 a n : Nat} (t0 t1 : Nat) (hd : decode cc pc = .ok (.invokestatic idx, 3)) (hw : Cond.methodLink own idx arraycopyName ∈ BIG) (hty0 : sT σ a0 = t0) (hty1 : sT σ a = t1) (ht0 : 13 ≤ t0) (ht1 : 13 ≤ t1) (hk0 : aK t0 = 0) (hk1 : aK t1 = 0) (hn0 : n ≤ aL t0) (hn1 : n ≤ aL t1) (hL31 : n < 2 ^ 31) (hr : (rest.map fun v => v.category).sum ≤ 8) (hdd : 1 ≤ d)
    (kk : V E X own mn cc nL ret d mc ms Q (wA σ t1 a (fun k => if k < n then sI σ t0 a0 k else sI σ t1 a k)) nc ns (pc + 3) ls rest) : V E X own mn cc nL ret d mc ms Q σ nc ns pc ls (.int (nI n) :: .int (nI 0) :: .ref a :: .int (nI 0) :: .ref a0 :: rest) := by
  intro C H locs arr hA hl hL T hT Y
  have hts := C.2.2.2.2.1
  have hR := C.2.2.2.2.2.2.2.2.2
  have hcl := hA.cell hty1 (by omega)
  have hc1 := hcl.2.ai ht1 (by omega)
  have hc0 := (hA.cell hty0 (by omega)).2.ai ht0 (by omega)
  rw [hk1] at hc1
  rw [hk0] at hc0
  have hK := (kTy C.2.2.2.2.2.1.1 (k := 0) (by omega)).1
  obtain ⟨-, k0, hq0, cm0, hkk0⟩ := hK (aL t0) (fun j => .int (sI σ t0 a0 j))
  obtain ⟨-, k1, hq1, cm1, hkk1⟩ := hK (aL t1) (fun j => .int (sI σ t1 a j))
  have z0 : ¬ nI 0 < 0 := by decide
  have zn : ¬ nI n < 0 := nI_pos hL31
  have c0 : (nI 0).toNatClampNeg = 0 := nI_clamp (by decide)
  have cn : (nI n).toNatClampNeg = n := nI_clamp hL31
  have wds : nativeFrameWords "java/lang/System" "arraycopy" 5 + 11 ≤ 40 := by decide
  obtain ⟨vm', Y', step⟩ := Y.arraycopy C.1 C.2.2.2.1 (hts _ hw) (hts _ wn_acopy) (hts _ wt_acopy) (hts _ wi_system) (src := a0) (dst := a) (cs := vp_cell (eA E 0) (aL t0, .inl (sI σ t0 a0))) (cd := vp_cell (eA E 0) (aL t1, .inl (sI σ t1 a))) (srcPos := nI 0) (destPos := nI 0) (n := nI n) (by rw [hT]; exact hc0) (by rw [hT]; exact hc1)
    (fun _ h => by cases h) (fun _ h => by cases h) (fun h => by cases h) (fun h => by cases h) hq0 hq1 hkk0 hkk1 (by rfl) z0 z0 zn
    (by rw [toI 0 (by decide), toI n hL31]; show ¬ _ > ((arrV (eA E 0) (aL t0) (fun j => .int (sI σ t0 a0 j))).slots.size : Int); rw [arrV_size]; omega)
    (by rw [toI 0 (by decide), toI n hL31]; show ¬ _ > ((arrV (eA E 0) (aL t1) (fun j => .int (sI σ t1 a j))).slots.size : Int); rw [arrV_size]; omega)
    (fun vm₁ _ i hi => by
      rw [cn] at hi
      have e : (vp_cell (eA E 0) (aL t0, .inl (sI σ t0 a0))).slots.getD ((nI 0).toNatClampNeg + i) .null = .int (sI σ t0 a0 i) := by
        show (arrV (eA E 0) (aL t0) (fun j => .int (sI σ t0 a0 j))).slots.getD _ _ = _
        rw [c0, Nat.zero_add, Array.getD_eq_getD_getElem?, arrV_read _ _ (by omega)]
        rfl
      rw [e]
      exact ⟨rfl, trivial⟩)
    (g := F0 (xM X) pc arr (.int (nI n) :: .int (nI 0) :: .ref a :: .int (nI 0) :: .ref a0 :: rest)) rfl (by rw [C.2.2.1, ← hL.1]) (rest := rest) rfl (by rw [C.2.1]; exact hd) (by omega) (by show 2 * 0 + _ + _ ≤ _; omega)
  have e1 : copied (vp_cell (eA E 0) (aL t0, .inl (sI σ t0 a0))) (vp_cell (eA E 0) (aL t1, .inl (sI σ t1 a))) (nI 0) (nI 0) (nI n) = vp_cell (eA E 0) (aL t1, .inl (va_cpy (sI σ t0 a0) (sI σ t1 a) (nI 0).toNatClampNeg (nI 0).toNatClampNeg (nI n).toNatClampNeg)) := va_copied (fun z => .int z) (eA E 0) (eA E 0) (sI σ t0 a0) (sI σ t1 a) (by rw [c0, cn]; omega)
  have e2 : va_cpy (sI σ t0 a0) (sI σ t1 a) (nI 0).toNatClampNeg (nI 0).toNatClampNeg (nI n).toNatClampNeg = (fun k => if k < n then sI σ t0 a0 k else sI σ t1 a k) := by
    rw [c0, cn]
    funext k
    unfold va_cpy
    by_cases q : k < n
    · rw [if_pos ⟨by omega, by omega⟩, if_pos q, Nat.zero_add, Nat.sub_zero]
    · rw [if_neg (by omega), if_neg q]
  rw [e1, e2] at Y' step
  generalize hcell : vp_cell (eA E 0) (aL t1, .inl (fun k => if k < n then sI σ t0 a0 k else sI σ t1 a k)) = cell at Y' step
  have hlt : a < H.size := (Array.getElem?_eq_some_iff.mp hc1).1
  have hheap : ((T.setVm vm').setCell a cell).heap = H.setIfInBounds a cell := by rw [← hT]; rfl
  have oq : ∀ q : Nat, q ≠ a → (H.setIfInBounds a cell)[q]? = H[q]? := fun q hq => by simp [Array.getElem?_setIfInBounds, Ne.symm hq]
  have hf : sI (wA σ t1 a (fun k => if k < n then sI σ t0 a0 k else sI σ t1 a k)) t1 a = (fun k => if k < n then sI σ t0 a0 k else sI σ t1 a k) := by
    funext k
    rw [sI_wA]
    exact if_pos ⟨rfl, rfl⟩
  obtain ⟨t, a1, b1⟩ := kk C (H.setIfInBounds a cell) _ arr (hA.put hty1 (by omega) (by simp) oq rfl (fun _ => rfl) rfl (fun b hb t' k' => by rw [sI_wA, if_neg (fun q => hb q.2)]) (fun _ _ _ _ => rfl) (cOK.of_ai ht1 (by omega) (by
      rw [hk1, show (H.setIfInBounds a cell)[a]? = some cell by simp [Array.getElem?_setIfInBounds, hlt], ← hcell, hf]))) (fun q hq => by
      rcases List.mem_append.mp hq with h | h
      · exact hl q h
      · obtain ⟨z, -, hz⟩ := List.mem_map.mp h
        rw [← hz]
        exact hcl.1) hL _ hheap Y'
  exact ⟨t, step t a1, b1⟩

