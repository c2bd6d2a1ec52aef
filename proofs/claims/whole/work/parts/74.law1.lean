/-! ===== the law: the script's cells ===== -/
section LAW1
variable {E : VE} {X : VX} {own mn : String} {cc : ByteArray} {nL : Nat} {ret : Option FieldType} {d mc ms : Nat} {Q : State → Prop} {σ : Sg} {nc ns pc : Nat} {ls : List (Option Value)} {st : List Value} {b L : Nat} {xs : Nat → Int32}
theorem V.slen (hX : va_X b L xs (xS X) (eH E)) (hb : b < (eH E).size) (hd : decode cc pc = .ok (.arraylength, 1)) (kk : V E X own mn cc nL ret d mc ms Q σ nc ns (pc + 1) ls (.int (nI L) :: st)) : V E X own mn cc nL ret d mc ms Q σ nc ns pc ls (.ref b :: st) := by
  intro C H locs arr hA hl hL
  obtain ⟨scr, h1, h2, h3, h4, h5⟩ := hX
  exact W.alen (n := Int32.ofNat L) C.1 C.2.1 (by rw [hA.2.2.1 b hb]; exact h1) h2 (by rw [h4] <;> rfl) rfl rfl hd (kk C H locs arr hA hl hL)
theorem V.sld {x : Int32} {j : Nat} (hX : va_X b L xs (xS X) (eH E)) (hb : b < (eH E).size) (hd : decode cc pc = .ok (.iaload, 1)) (hx : x = nI j) (hj : j < L) (hL : L ≤ 2048) (kk : V E X own mn cc nL ret d mc ms Q σ nc ns (pc + 1) ls (.int (xs j) :: st)) : V E X own mn cc nL ret d mc ms Q σ nc ns pc ls (.int x :: .ref b :: st) := by
  intro C H locs arr hA hl hLv
  obtain ⟨scr, h1, h2, h3, h4, h5⟩ := hX
  obtain ⟨q1, q2⟩ := in_nI hx hj (by omega)
  exact W.iald (v := .int (xs j)) C.1 C.2.1 (by rw [hA.2.2.1 b hb]; exact h1) h2 h3 (by rw [h4]; exact q1) (by rw [q2]; exact h5 _ hj) rfl rfl hd (kk C H locs arr hA hl hLv)
/-- a script's number onto the stack: five rows -/
theorem V.sarg {n c k1 : Nat} {kz : Int} (hX : va_X b L xs (xS X) (eH E)) (hb : b < (eH E).size) (hL : L ≤ 2048) (h0 : lget ls 0 = some (.ref b)) (h3 : lget ls 3 = some (.int (nI n))) (d0 : decode cc pc = .ok (.aload_n 0, 1)) (d1 : decode cc (pc + 1) = .ok (.iload_n 3, 1)) (d2 : decode cc (pc + 1 + 1) = .ok (.iconst kz, 1)) (hv : Int32.ofInt kz = nI c) (d3 : decode cc (pc + 1 + 1 + 1) = .ok (.iadd, 1)) (d4 : decode cc (pc + 1 + 1 + 1 + 1) = .ok (.iaload, 1)) (hj : n + c < L)
    (hk : pc + 1 + 1 + 1 + 1 + 1 = k1) (kk : V E X own mn cc nL ret d mc ms Q σ nc ns k1 ls (.int (xs (n + c)) :: st)) : V E X own mn cc nL ret d mc ms Q σ nc ns pc ls st := by
  subst hk
  refine V.aload_n (i := 0) d0 rfl h0 ?_
  refine V.iload_n (i := 3) d1 rfl h3 ?_
  refine V.iconst d2 hv ?_
  refine V.iadd d3 ?_
  exact V.sld hX hb d4 (nI_add n c) hj hL kk
end LAW1
theorem n_of (x : Int32) : x = nI x.toUInt32.toNat := by
  apply Int32.toBitVec_inj.mp
  apply BitVec.eq_of_toNat_eq
  have h : x.toBitVec.toNat < 2 ^ 32 := x.toBitVec.isLt
  show x.toBitVec.toNat = (BitVec.ofNat 32 x.toUInt32.toNat).toNat
  rw [BitVec.toNat_ofNat]
  exact (Nat.mod_eq_of_lt h).symm
theorem and31 (x : Int32) : ∃ k, k < 32 ∧ x &&& 31 = nI k := by
  refine ⟨x.toUInt32.toNat % 2 ^ 5, Nat.mod_lt _ (by decide), ?_⟩
  rw [← fa_mask, ← n_of x]
  rfl
theorem len4 {L n : Nat} (hL : L ≤ 2048) (hn : n ≤ 2100) : nI L - 4 < nI n ↔ L < n + 4 := by
  have h1 : (nI L).toInt = (L : Int) := nI_toInt (by omega)
  have h2 : (nI n).toInt = (n : Int) := nI_toInt (by omega)
  have h4 : (4 : Int32).toInt = 4 := by decide
  rw [fa_lt, fb_subI (by rw [h1, h4]; omega) (by rw [h1, h4]; omega), h1, h2, h4]
  omega
