/-! ===== rows for arrays, new cells, the model's cells, static arrays, answers ===== -/
theorem cOK.ai {E : VE} {σ : Sg} {H : Heap} {a t : Nat} (ht : 13 ≤ t) (hk : aK t < 2) (h : cOK E σ a t H) : H[a]? = some (vp_cell (eA E (aK t)) (aL t, .inl (sI σ t a))) := by
  unfold cOK at h
  rw [if_neg (by omega), if_pos hk] at h
  exact h
theorem cOK.aq {E : VE} {σ : Sg} {H : Heap} {a t : Nat} (ht : 13 ≤ t) (hk : 2 ≤ aK t) (h : cOK E σ a t H) : H[a]? = some (vp_cell (eA E (aK t)) (aL t, .inr (.inr (.inr (.inr (sR σ t a)))))) := by
  unfold cOK at h
  rw [if_neg (by omega), if_neg (by omega)] at h
  exact h
theorem cOK.of_ai {E : VE} {σ : Sg} {H : Heap} {a t : Nat} (ht : 13 ≤ t) (hk : aK t < 2) (h : H[a]? = some (vp_cell (eA E (aK t)) (aL t, .inl (sI σ t a)))) : cOK E σ a t H := by
  unfold cOK
  rw [if_neg (by omega), if_pos hk]
  exact h
theorem cOK.of_aq {E : VE} {σ : Sg} {H : Heap} {a t : Nat} (ht : 13 ≤ t) (hk : 2 ≤ aK t) (h : H[a]? = some (vp_cell (eA E (aK t)) (aL t, .inr (.inr (.inr (.inr (sR σ t a))))))) : cOK E σ a t H := by
  unfold cOK
  rw [if_neg (by omega), if_neg (by omega)]
  exact h
theorem in_nI {x : Int32} {j n : Nat} (hx : x = nI j) (hj : j < n) (hn : n < 2 ^ 31) : vp_in x n ∧ x.toNatClampNeg = j := by
  subst hx
  exact ⟨vp_in_nI hj hn, nI_clamp (by omega)⟩
theorem aK_lt : ∀ t, aK t < 7 := by
  intro t
  unfold aK
  split <;> try omega
  split
  · unfold rK
    split <;> omega
  · omega
section VARR
variable {E : VE} {X : VX} {own mn : String} {cc : ByteArray} {nL : Nat} {ret : Option FieldType} {d mc ms : Nat} {Q : State → Prop} {σ : Sg} {nc ns pc : Nat} {ls : List (Option Value)} {st : List Value} {idx a t j : Nat}
theorem kTy {E : VE} {U : State} (hK : va_K (eD E) vwCl (eTys E) U) {k : Nat} (hk : k < 7) : ArrOfT U (eA E k) (aTy k) ∧ va_RA U (eA E k) (aTy k) := hK.2 k _ (eTys_at E k hk)
theorem V.iald {x : Int32} (hd : decode cc pc = .ok (.iaload, 1)) (hty : sT σ a = t) (ht : 13 ≤ t) (hk : aK t = 0) (hx : x = nI j) (hj : j < aL t) (hL31 : aL t < 2 ^ 31) (kk : V E X own mn cc nL ret d mc ms Q σ nc ns (pc + 1) ls (.int (sI σ t a j) :: st)) : V E X own mn cc nL ret d mc ms Q σ nc ns pc ls (.int x :: .ref a :: st) := by
  intro C H locs arr hA hl hL
  have hc := (hA.cell hty (by omega)).2.ai ht (by omega)
  obtain ⟨h1, h2⟩ := in_nI hx hj hL31
  rw [hk] at hc
  refine va_iald (D := eD E) (cl := vwCl) (ws := [(a, .inl (eA E 0, aL t, .inl (sI σ t a)))]) C.1 C.2.1 C.2.2.2.2.2.1.1 (fun k q hq => ?_) 0 0 rfl (eTys_at E 0 (by omega)) h1 hd ?_
  · have hz : k < 1 := (List.getElem?_eq_some_iff.mp hq).1
    rw [show k = 0 by omega] at hq
    cases hq
    exact hc
  · rw [h2]
    exact kk C H locs arr hA hl hL
theorem V.aald {x : Int32} {r : Option Nat} (hd : decode cc pc = .ok (.aaload, 1)) (hty : sT σ a = t) (ht : 13 ≤ t) (hk : 2 ≤ aK t) (hx : x = nI j) (hj : j < aL t) (hL31 : aL t < 2 ^ 31) (hv : sR σ t a j = r) (kk : V E X own mn cc nL ret d mc ms Q σ nc ns (pc + 1) ls (va_rf r :: st)) : V E X own mn cc nL ret d mc ms Q σ nc ns pc ls (.int x :: .ref a :: st) := by
  intro C H locs arr hA hl hL
  have hc := (hA.cell hty (by omega)).2.aq ht hk
  obtain ⟨h1, h2⟩ := in_nI hx hj hL31
  have hlt : x.toNatClampNeg < aL t := by omega
  have hK := (kTy C.2.2.2.2.2.1.1 (aK_lt t)).1
  have hre : (aTy (aK t)).isReference = true := by
    have : ∀ n, n < 7 → 2 ≤ n → (aTy n).isReference = true := by decide
    exact this _ (aK_lt t) hk
  refine W.aald (v := va_rf (sR σ t a j)) (ty := aTy (aK t)) C.1 C.2.1 hc (hK _ (fun j => va_rf (sR σ t a j))) hre (fun q => by cases q) (by show ¬ (x < 0 ∨ (arrV _ _ _).slots.size ≤ _); rw [arrV_size]; exact h1) (by show (arrV _ _ _).slots[_]? = _; rw [arrV_read _ _ hlt, h2]) rfl rfl hd ?_
  rw [hv]
  exact kk C H locs arr hA hl hL
theorem V.aaldS {x : Int32} {b : Nat} (hd : decode cc pc = .ok (.aaload, 1)) (hty : sT σ a = t) (ht : 13 ≤ t) (hk : 2 ≤ aK t) (hx : x = nI j) (hj : j < aL t) (hL31 : aL t < 2 ^ 31) (hv : sR σ t a j = some b) (kk : V E X own mn cc nL ret d mc ms Q σ nc ns (pc + 1) ls (.ref b :: st)) : V E X own mn cc nL ret d mc ms Q σ nc ns pc ls (.int x :: .ref a :: st) := V.aald hd hty ht hk hx hj hL31 hv kk
theorem V.iast {x v : Int32} (hd : decode cc pc = .ok (.iastore, 1)) (hty : sT σ a = t) (ht : 13 ≤ t) (hk : aK t = 0) (hx : x = nI j) (hj : j < aL t) (hL31 : aL t < 2 ^ 31) (kk : V E X own mn cc nL ret d mc ms Q (wI σ t a j v) nc ns (pc + 1) ls st) : V E X own mn cc nL ret d mc ms Q σ nc ns pc ls (.int v :: .int x :: .ref a :: st) := by
  intro C H locs arr hA hl hL
  have hcl := hA.cell hty (by omega)
  have hc := hcl.2.ai ht (by omega)
  obtain ⟨h1, h2⟩ := in_nI hx hj hL31
  have hK := (kTy C.2.2.2.2.2.1.1 (k := 0) (by omega)).1
  rw [hk] at hc
  refine W.iast C.1 C.2.1 hc (hK _ (fun j => .int (sI σ t a j))) (fun q => by cases q) (by show ¬ (x < 0 ∨ (arrV _ _ _).slots.size ≤ _); rw [arrV_size]; exact h1) rfl rfl hd fun H1 e z oq => ?_
  refine kk C H1 _ arr (hA.put hty (by omega) z oq rfl (fun _ => rfl) rfl (fun b hb t' k' => ?_) (fun _ _ _ _ => rfl) (cOK.of_ai ht (by omega) ?_)) (locs_add hl hcl.1) hL
  · rw [sI_wI, if_neg (fun q => hb q.2.1)]
  · rw [e, hk]
    rw [vp_cell_i, vp_cell_i, arrV_store]
    congr 2
    funext q
    rw [h2]
    by_cases hq : q = j
    · subst hq
      simp [updV, sI_wI]
    · simp [updV, sI_wI, hq]
/-- references into a row; their objects are of the row's class -/
theorem V.aast {x : Int32} {b : Nat} (hd : decode cc pc = .ok (.aastore, 1)) (hty : sT σ a = t) (ht : 13 ≤ t) (hk : 2 ≤ aK t) (hx : x = nI j) (hj : j < aL t) (hL31 : aL t < 2 ^ 31) (hb : sT σ b = aC (aK t) + 1) (kk : V E X own mn cc nL ret d mc ms Q (wR σ t a j (some b)) nc ns (pc + 1) ls st) : V E X own mn cc nL ret d mc ms Q σ nc ns pc ls (.ref b :: .int x :: .ref a :: st) := by
  intro C H locs arr hA hl hL
  have hcl := hA.cell hty (by omega)
  have hc := hcl.2.aq ht hk
  obtain ⟨h1, h2⟩ := in_nI hx hj hL31
  have hlt : x.toNatClampNeg < aL t := by omega
  have hci : aC (aK t) < 12 := by
    have : ∀ n, n < 7 → aC n < 12 := by decide
    exact this _ (aK_lt t)
  have hK := kTy C.2.2.2.2.2.1.1 (aK_lt t)
  have hO := (hA.cell hb (by omega)).2.ob hci
  obtain ⟨cellV, g1, g2, g3, -⟩ := hO
  have hcls := (C.2.2.2.2.2.1.1.1 _ _ (cl_at _ hci)).2
  have hty2 : aTy (aK t) = .object (cR (aC (aK t))) := by
    have : ∀ n, n < 7 → 2 ≤ n → aTy n = .object (cR (aC n)) := by decide
    exact this _ (aK_lt t) hk
  rw [hty2] at hK
  obtain ⟨kA, comp, k1, k2, k3, -⟩ := hK.2
  have hcomp : comp = (eD E).1 (aC (aK t)) := Option.some.inj (k3.symm.trans hcls.1)
  subst hcomp
  obtain ⟨kC, hkC, -⟩ := hcls.2
  refine W.aast C.1 C.2.1 hc (fun q h => by cases h) (fun h => by cases h) k1 k2 rfl hkC ⟨fun q => h1 (Or.inl q), by show _ < (arrV _ _ _).slots.size; rw [arrV_size]; exact hlt⟩ g1 (fun q h => by rw [g3] at h; cases h) (by rw [g2]; exact hkC) (by rw [g2]; exact va_assign hcls) rfl rfl hd fun H1 e z oq => ?_
  refine kk C H1 _ arr (hA.put hty (by omega) z oq rfl (fun _ => rfl) rfl (fun _ _ _ _ => rfl) (fun b' hb' t' k' => ?_) (cOK.of_aq ht hk ?_)) (locs_add hl hcl.1) hL
  · rw [sR_wR, if_neg (fun q => hb' q.2.1)]
  · rw [e]
    rw [vp_cell_q, vp_cell_q, arrV_store]
    congr 2
    funext q
    rw [h2]
    by_cases hq : q = j
    · subst hq
      simp [updV, sR_wR, va_rf]
    · simp [updV, sR_wR, hq]
/-- a new object -/
theorem V.new {ci : Nat} (hd : decode cc pc = .ok (.new idx, 3)) (hci : ci < 12) (hcl : Cond.classLink own idx (cR ci) ∈ BIG) (hin : Cond.instantiable (cR ci) (cN ci) ∈ BIG) (hini : Cond.initialized (cR ci) ∈ BIG) (h1 : nc + 1 ≤ mc) (h2 : ns + cN ci ≤ ms) (kk : V E X own mn cc nL ret d mc ms Q (wN σ (ci + 1)) (nc + 1) (ns + cN ci) (pc + 3) ls (.ref (sN σ) :: st)) : V E X own mn cc nL ret d mc ms Q σ nc ns pc ls st := by
  intro C H locs arr hA hl hL
  have hts := C.2.2.2.2.1
  have hKn := C.2.2.2.2.2.1.1.1 ci _ (cl_at ci hci)
  have hR := C.2.2.2.2.2.2.2.2.2
  refine W.newcK C.1 C.2.1 C.2.2.2.1 (hts _ hcl) (hts _ hin) (hts _ hini) rfl hd (by omega) (by omega) hKn.2.1 hA.1 fun H1 kC hkC e1 z1 o1 => ?_
  refine kk C H1 locs arr (hA.new z1 o1 (cOK.of_ob hci ((u_born (cTy ci) hts (cl_in ci hci) hKn hkC e1 (cl_ty ci hci)).to fun j hj => ?_))) hl hL
  rw [cl_def ci hci j hj]
  unfold fv
  rw [show ci + 1 - 1 = ci from rfl, sI_wN, sR_wN, if_pos (⟨rfl, rfl⟩ : ci + 1 = ci + 1 ∧ sN σ = sN σ), if_pos (⟨rfl, rfl⟩ : ci + 1 = ci + 1 ∧ sN σ = sN σ)]
  rfl
/-- a new row of numbers -/
theorem V.newa {x : Int32} {at_ : ArrayType} (t : Nat) (hd : decode cc pc = .ok (.newarray at_, 2)) (hat : newarray.typeOf at_ = aTy (aK t)) (hac : Cond.arrayClass (aTy (aK t)) ∈ BIG) (ht : 13 ≤ t) (hk : aK t < 2) (hx : x = nI (aL t)) (hb : aL t ≤ 200) (h1 : nc + 1 ≤ mc) (h2 : ns + aL t ≤ ms) (kk : V E X own mn cc nL ret d mc ms Q (wN σ t) (nc + 1) (ns + aL t) (pc + 2) ls (.ref (sN σ) :: st)) : V E X own mn cc nL ret d mc ms Q σ nc ns pc ls (.int x :: st) := by
  intro C H locs arr hA hl hL
  have hts := C.2.2.2.2.1
  have hR := C.2.2.2.2.2.2.2.2.2
  have hK := kTy C.2.2.2.2.2.1.1 (aK_lt t)
  have hcb : componentBytes (newarray.typeOf at_) ≤ 8 := by cases at_ <;> decide
  refine va_newaK C.1 C.2.1 (by rw [hat]; exact hts _ hac) rfl hd rfl (by rw [hx]; exact nI_pos (by omega)) (N := aL t) (by rw [hx]; exact nI_clamp (by omega)) (Nat.le_trans (Nat.mul_le_mul hb hcb) (by decide)) (by omega) (by omega) hA.1 fun H1 cA e1 z1 o1 hAr hNm => ?_
  have hz : aTy (aK t) = .int ∨ aTy (aK t) = .boolean := by
    rcases (show aK t = 0 ∨ aK t = 1 by omega) with q | q <;> rw [q]
    · exact Or.inl rfl
    · exact Or.inr rfl
  have hcA : cA = eA E (aK t) := by
    have h3 := hK.2
    rw [hat] at hNm
    rcases hz with q | q <;> rw [q] at h3 hNm <;> exact Option.some.inj (hNm.symm.trans h3)
  subst hcA
  refine kk C H1 locs arr (hA.new z1 o1 (cOK.of_ai ht hk ?_)) hl hL
  rw [e1, vp_cell_i]
  congr 2
  funext q
  rw [sI_wN, if_pos ⟨rfl, rfl⟩, hat]
  rcases hz with w | w <;> rw [w] <;> rfl
/-- a new row of references -/
theorem V.newq {x : Int32} (t : Nat) (hd : decode cc pc = .ok (.anewarray idx, 3)) (hcl : Cond.classLink own idx (cR (aC (aK t))) ∈ BIG) (ht : 13 ≤ t) (hk : 2 ≤ aK t) (hx : x = nI (aL t)) (hb : aL t ≤ 200) (h1 : nc + 1 ≤ mc) (h2 : ns + aL t ≤ ms) (kk : V E X own mn cc nL ret d mc ms Q (wN σ t) (nc + 1) (ns + aL t) (pc + 3) ls (.ref (sN σ) :: st)) : V E X own mn cc nL ret d mc ms Q σ nc ns pc ls (.int x :: st) := by
  intro C H locs arr hA hl hL
  have hts := C.2.2.2.2.1
  have hR := C.2.2.2.2.2.2.2.2.2
  have hK := kTy C.2.2.2.2.2.1.1 (aK_lt t)
  have hAO := C.2.2.2.2.2.1.2.2.1 (aK t) hk (aK_lt t)
  have hcl2 : x.toNatClampNeg = aL t := by rw [hx]; exact nI_clamp (by omega)
  refine W.anew C.1 C.2.1 C.2.2.2.1 (hts _ hcl) (va_AO.use hAO) rfl hd rfl (by rw [hx]; exact nI_pos (by omega)) (by rw [hcl2]; omega) (by omega) (by omega) fun cA kA comp f1 f2 f3 f4 => ?_
  rw [hcl2]
  generalize hH1 : H.push ({ cls := cA, slots := Array.replicate (aL t) .null, vm := .none } : Cell) = H1
  have z1 : H1.size = sN σ + 1 := by rw [← hH1, Array.size_push, hA.1]
  have e1 : H1[sN σ]? = some (arrV cA (aL t) (fun _ => .null)) := by rw [← hH1, ← hA.1, Array.getElem?_push_size, ← arrV_new]
  have o1 : ∀ q : Nat, q < sN σ → H1[q]? = H[q]? := fun q hq => by rw [← hH1, Array.getElem?_push, if_neg (by rw [hA.1]; omega)]
  have hty2 : aTy (aK t) = .object (cR (aC (aK t))) := by
    have : ∀ n, n < 7 → 2 ≤ n → aTy n = .object (cR (aC n)) := by decide
    exact this _ (aK_lt t) hk
  have hcA : cA = eA E (aK t) := by
    have h3 := hK.2
    rw [hty2] at h3
    obtain ⟨kA', comp', k1, k2, k3, k4⟩ := h3
    exact Option.some.inj (f1.symm.trans k4)
  subst hcA
  have w := kk C H1 locs arr (hA.new z1 o1 (cOK.of_aq ht hk (by
    rw [e1, vp_cell_q]
    congr 2
    funext q
    rw [sR_wN, if_pos ⟨rfl, rfl⟩]
    rfl))) hl hL
  rw [hA.1]
  exact w
end VARR
