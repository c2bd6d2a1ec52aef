/-! ===== the heap under the abstract state ===== -/
set_option maxRecDepth 100000 in
theorem cl_in0 : ∀ ci, ci < 12 → (u_ws (cR ci) (cT ci) (cN ci)).all (fun w => decide (w ∈ BIG)) = true := by decide +kernel
theorem cl_in (ci : Nat) (h : ci < 12) : ∀ w ∈ u_ws (cR ci) (cT ci) (cN ci), w ∈ BIG := fun w hw => of_decide_eq_true (List.all_eq_true.mp (cl_in0 ci h) w hw)
theorem cl_def : ∀ ci, ci < 12 → ∀ k, k < cN ci → defaultValue (cTy ci k) = if fRef ci k = true then .null else .int 0 := by decide +kernel
/-- the link of a field: own class, place in its pool, class number and field number -/
def FL (own : String) (idx ci k : Nat) : Prop := ci < 12 ∧ k < cN ci ∧ Cond.fieldLink own idx (cT ci k).1 (cT ci k).2.1 (cT ci k).2.2.1 ∈ BIG
theorem AH.cell {E : VE} {σ : Sg} {H : Heap} {a t : Nat} (hA : AH E σ H) (hty : sT σ a = t) (ht : t ≠ 0) : (eH E).size ≤ a ∧ cOK E σ a t H := by
  have h := hA.2.2.2.1 a (by rw [hty]; exact ht)
  rw [hty] at h
  exact h
theorem cOK.kept {E : VE} {σ σ' : Sg} {H H' : Heap} {a t : Nat} (h : cOK E σ a t H) (hq : H'[a]? = H[a]?) (hI : ∀ k, sI σ' t a k = sI σ t a k) (hR : ∀ k, sR σ' t a k = sR σ t a k) : cOK E σ' a t H' := by
  have eI : sI σ' t a = sI σ t a := funext hI
  have eR : sR σ' t a = sR σ t a := funext hR
  have eF : fv σ' t a = fv σ t a := funext fun k => by unfold fv; rw [hI, hR]
  unfold cOK at h ⊢
  rw [eI, eR, eF]
  split
  · rename_i h1
    rw [if_pos h1] at h
    exact h.kept hq
  · rename_i h1
    rw [if_neg h1] at h
    split
    · rename_i h2
      rw [if_pos h2] at h
      rw [hq]; exact h
    · rename_i h2
      rw [if_neg h2] at h
      rw [hq]; exact h
theorem cOK.lt {E : VE} {σ : Sg} {H : Heap} {a t : Nat} (h : cOK E σ a t H) : a < H.size := by
  unfold cOK at h
  split at h
  · obtain ⟨cell, h1, -⟩ := h
    exact (Array.getElem?_eq_some_iff.mp h1).1
  · split at h
    · exact (Array.getElem?_eq_some_iff.mp h).1
    · exact (Array.getElem?_eq_some_iff.mp h).1
theorem RefAt.kept {E : VE} {G : Nat → Nat → Int32} {H H' : Heap} (h : RefAt E G H) (hq : ∀ k, rU k → H'[eQ E k]? = H[eQ E k]?) : RefAt E G H' :=
  ⟨h.1, h.2.1, h.2.2.1.kept (hq 48 (Or.inl rfl)), fun k hk => by rw [hq k (Or.inr hk)]; exact h.2.2.2 k hk⟩
theorem RefAt.lt {E : VE} {G : Nat → Nat → Int32} {H : Heap} (h : RefAt E G H) : ∀ k, rU k → eQ E k < H.size := by
  intro k hk
  rcases hk with rfl | hk
  · obtain ⟨cell, h1, -⟩ := h.2.2.1
    exact (Array.getElem?_eq_some_iff.mp h1).1
  · exact (Array.getElem?_eq_some_iff.mp (h.2.2.2 k hk)).1
theorem AH.put {E : VE} {σ σ' : Sg} {H H' : Heap} {a t : Nat} (hA : AH E σ H) (hty : sT σ a = t) (h0 : t ≠ 0) (z : H'.size = H.size) (oq : ∀ q, q ≠ a → H'[q]? = H[q]?) (hN : sN σ' = sN σ) (hT : ∀ b, sT σ' b = sT σ b) (hG : sG σ' = sG σ)
    (hI : ∀ b, b ≠ a → ∀ t' k, sI σ' t' b k = sI σ t' b k) (hR : ∀ b, b ≠ a → ∀ t' k, sR σ' t' b k = sR σ t' b k) (hc : cOK E σ' a t H') : AH E σ' H' := by
  have ha := hA.cell hty h0
  refine ⟨by rw [z, hN]; exact hA.1, by rw [hN]; exact hA.2.1, fun q hq => ?_, fun b hb => ?_, fun hf => ?_⟩
  · rw [oq q (by intro e; rw [e] at hq; omega)]
    exact hA.2.2.1 q hq
  · rw [hT] at hb ⊢
    by_cases e : b = a
    · subst e
      rw [hty]
      exact ⟨ha.1, hc⟩
    · have h := hA.2.2.2.1 b hb
      exact ⟨h.1, h.2.kept (oq b e) (hI b e _) (hR b e _)⟩
  · obtain ⟨h1, h2⟩ := hA.2.2.2.2 hf
    refine ⟨?_, fun k hk => by rw [hT]; exact h2 k hk⟩
    rw [hG]
    exact h1.kept (fun k hk => oq _ (fun e => h0 (by rw [← hty, ← e]; exact h2 k hk)))
theorem AH.new {E : VE} {σ : Sg} {H H' : Heap} {t : Nat} (hA : AH E σ H) (z : H'.size = sN σ + 1) (oq : ∀ q, q < sN σ → H'[q]? = H[q]?) (hc : cOK E (wN σ t) (sN σ) t H') : AH E (wN σ t) H' := by
  have hlt : ∀ b, sT σ b ≠ 0 → b < sN σ := fun b hb => by rw [← hA.1]; exact (hA.2.2.2.1 b hb).2.lt
  refine ⟨z, by rw [sN_wN]; exact Nat.le_succ_of_le hA.2.1, fun q hq => ?_, fun b hb => ?_, fun hf => ?_⟩
  · rw [oq q (Nat.lt_of_lt_of_le hq hA.2.1)]
    exact hA.2.2.1 q hq
  · rw [sT_wN] at hb ⊢
    by_cases e : b = sN σ
    · rw [if_pos e]
      subst e
      exact ⟨hA.2.1, hc⟩
    · rw [if_neg e] at hb ⊢
      have h := hA.2.2.2.1 b hb
      refine ⟨h.1, h.2.kept (oq b (hlt b hb)) (fun k => ?_) (fun k => ?_)⟩
      · rw [sI_wN, if_neg (fun q => e q.2)]
      · rw [sR_wN, if_neg (fun q => e q.2)]
  · obtain ⟨h1, h2⟩ := hA.2.2.2.2 hf
    have hl : ∀ k, rU k → eQ E k < sN σ := fun k hk => by rw [← hA.1]; exact h1.lt k hk
    refine ⟨?_, fun k hk => ?_⟩
    · rw [sG_wN]
      exact h1.kept (fun k hk => oq _ (hl k hk))
    · rw [sT_wN, if_neg (Nat.ne_of_lt (hl k hk))]
      exact h2 k hk
/-- the model's rows anew -/
theorem AH.putG {E : VE} {σ : Sg} {H H' : Heap} {G' : Nat → Nat → Int32} {q0 : Nat} (hA : AH E σ H) (hf : eF E = true) (hq0 : rU q0) (z : H'.size = H.size) (oq : ∀ q, q ≠ eQ E q0 → H'[q]? = H[q]?) (hR : RefAt E G' H') : AH E (wG σ G') H' := by
  obtain ⟨h1, h2⟩ := hA.2.2.2.2 hf
  refine ⟨by rw [z]; exact hA.1, hA.2.1, fun q hq => ?_, fun b hb => ?_, fun _ => ⟨hR, h2⟩⟩
  · rw [oq q (by intro e; have := h1.1 q0 hq0; rw [← e] at this; omega)]
    exact hA.2.2.1 q hq
  · have h := hA.2.2.2.1 b hb
    exact ⟨h.1, h.2.kept (oq b (fun e => hb (by rw [e]; exact h2 q0 hq0))) (fun _ => rfl) (fun _ => rfl)⟩
section HW
variable {E : VE} {X : VX} {own mn : String} {cc : ByteArray} {nL : Nat} {ret : Option FieldType} {d mc ms : Nat} {Q : State → Prop} {nc ns pc : Nat} {arr : Array Slot} {st : List Value} {H : Heap} {locs : List Loc} {ci k idx a : Nat} {Vf : Nat → Value}
/-- a field is read -/
theorem getW (C : CX E X own mn cc nL ret d mc ms) (hf : FL own idx ci k) (hO : t_OB a ((eD E).1 ci) (cN ci) ((eD E).2 ci) H Vf) (hd : decode cc pc = .ok (.getfield idx, 3))
    (kk : W (xP X) (eL E) (xE X) (xR X) (xS X) (xM X) (xA X) (xB X) (xT X) (xC X) H locs nc ns Q (F0 (xM X) (pc + 3) arr (Vf k :: st))) : W (xP X) (eL E) (xE X) (xR X) (xS X) (xM X) (xA X) (xB X) (xT X) (xC X) H locs nc ns Q (F0 (xM X) pc arr (.ref a :: st)) := by
  obtain ⟨hci, hk, hfl⟩ := hf
  obtain ⟨cell, q1, q2, q3, q4⟩ := hO
  have hts := C.2.2.2.2.1
  obtain ⟨hS, hfc, kC, hkC, hkind⟩ := C.2.2.2.2.2.1.1.1 ci _ (cl_at ci hci)
  obtain ⟨cf, kf, fi, f, hi, hsl⟩ := hS k hk
  refine W.getf C.1 C.2.1 C.2.2.2.1 (hts _ hfl) hi (u_facts hfc hkC (u_lays hts (cl_in ci hci) hk) hi).1 q1 (by rw [q3]; exact fun h => by cases h) (v := Vf k) ?_ rfl rfl hd kk
  rw [hsl, q4 k hk]
/-- a field is written -/
theorem putW {v : Value} (C : CX E X own mn cc nL ret d mc ms) (hf : FL own idx ci k) (hO : t_OB a ((eD E).1 ci) (cN ci) ((eD E).2 ci) H Vf) (hfin : (cT ci k).2.2.2 = false ∨ ((cT ci k).2.2.2 = true ∧ mn = "<init>" ∧ (cT ci k).1 = own)) (hn : narrow (cTy ci k) v = v) (hfit : fits (cTy ci k) v = true) (hd : decode cc pc = .ok (.putfield idx, 3))
    (kk : ∀ (H' : Heap) (sl : Nat), t_OB a ((eD E).1 ci) (cN ci) ((eD E).2 ci) H' (updV Vf k v) → H'.size = H.size → (∀ q, q ≠ a → H'[q]? = H[q]?) → W (xP X) (eL E) (xE X) (xR X) (xS X) (xM X) (xA X) (xB X) (xT X) (xC X) H' (locs ++ [⟨a, sl⟩]) nc ns Q (F0 (xM X) (pc + 3) arr st)) : W (xP X) (eL E) (xE X) (xR X) (xS X) (xM X) (xA X) (xB X) (xT X) (xC X) H locs nc ns Q (F0 (xM X) pc arr (v :: .ref a :: st)) := by
  obtain ⟨hci, hk, hfl⟩ := hf
  obtain ⟨cell, q1, q2, q3, q4⟩ := hO
  have hts := C.2.2.2.2.1
  have hin := cl_in ci hci
  have hK := C.2.2.2.2.2.1.1
  have hap := va_apart (own := own) hts hin (cTy ci) (cl_ty ci hci) (cl_nm ci hci) hK (cl_at ci hci)
  obtain ⟨hS, hfc, kC, hkC, hkind⟩ := hK.1 ci _ (cl_at ci hci)
  obtain ⟨cf, kf, fi, f, hi, hsl⟩ := hS k hk
  have hlay := hts _ (hin _ (u_in_lay hk))
  unfold u_lay at hlay
  have hst := (u_facts hfc hkC (u_lays hts hin hk) hi).1
  rcases hfin with hfin | ⟨hfin, hmn, hown⟩
  · rw [if_neg (by rw [hfin]; decide)] at hlay
    have h6 := u_store hfc hkC hkind hlay hi (cl_ty ci hci k hk) hn hfit
    refine W.putK C.1 C.2.1 (f := f) ⟨C.2.2.2.1, hts _ hfl, ⟨_, _, _, hi⟩, hst⟩ (by rw [q2]; exact h6) q1 q3 (by rw [hsl]; exact k2_hasslot (q4 k hk)) rfl rfl hd fun H' e1 e2 e3 => ?_
    rw [hsl] at e1 ⊢
    exact kk H' _ ⟨_, e1, q2, q3, t_set q4 hap hk v⟩ e2 e3
  · rw [if_pos hfin] at hlay
    have hcf : (xM X).cls = cf := by
      obtain ⟨_, _, c', _, _, _, -, -, hf', -, -, -, hown2, -⟩ := Cond.laysFinal_spec hlay
      have e1 : c' = cf := by have := hi.symm.trans hf'; simp at this; exact this.1.symm
      rw [hown] at hown2
      rw [← e1]; exact Option.some.inj (C.2.2.2.1.symm.trans hown2)
    have h6 := u_fits hfc hkC hkind (Or.inr hlay) hi (cl_ty ci hci k hk) hn hfit
    refine W.putFinK C.1 C.2.1 C.2.2.2.1 (hts _ hfl) hi hst hcf (C.2.2.2.2.2.2.2.1.trans hmn) (by rw [q2]; exact h6) q1 q3 (by rw [hsl]; exact k2_hasslot (q4 k hk)) rfl rfl hd fun H' e1 e2 e3 => ?_
    rw [hsl] at e1 ⊢
    exact kk H' _ ⟨_, e1, q2, q3, t_set q4 hap hk v⟩ e2 e3
end HW
theorem locs_add {E : VE} {locs : List Loc} {a sl : Nat} (h : ∀ q ∈ locs, (eH E).size ≤ q.base) (ha : (eH E).size ≤ a) : ∀ q ∈ locs ++ [(⟨a, sl⟩ : Loc)], (eH E).size ≤ q.base := by
  intro q hq
  rcases List.mem_append.mp hq with h1 | h1
  · exact h q h1
  · rw [List.mem_singleton.mp h1]; exact ha
section VHEAP
variable {E : VE} {X : VX} {own mn : String} {cc : ByteArray} {nL : Nat} {ret : Option FieldType} {d mc ms : Nat} {Q : State → Prop} {σ : Sg} {nc ns pc : Nat} {ls : List (Option Value)} {st : List Value} {idx ci k a t : Nat}
theorem cOK.ob {E : VE} {σ : Sg} {H : Heap} {a ci : Nat} (hci : ci < 12) (h : cOK E σ a (ci + 1) H) : t_OB a ((eD E).1 ci) (cN ci) ((eD E).2 ci) H (fv σ (ci + 1) a) := by
  unfold cOK at h
  rw [if_pos (by omega)] at h
  exact h
theorem cOK.of_ob {E : VE} {σ : Sg} {H : Heap} {a ci : Nat} (hci : ci < 12) (h : t_OB a ((eD E).1 ci) (cN ci) ((eD E).2 ci) H (fv σ (ci + 1) a)) : cOK E σ a (ci + 1) H := by
  unfold cOK
  rw [if_pos (by omega)]
  exact h
theorem V.geti (hd : decode cc pc = .ok (.getfield idx, 3)) (hf : FL own idx ci k) (hr : fRef ci k = false) (hty : sT σ a = ci + 1) (kk : V E X own mn cc nL ret d mc ms Q σ nc ns (pc + 3) ls (.int (sI σ (ci + 1) a k) :: st)) : V E X own mn cc nL ret d mc ms Q σ nc ns pc ls (.ref a :: st) := by
  intro C H locs arr hA hl hL
  refine getW C hf ((hA.cell hty (by omega)).2.ob hf.1) hd ?_
  have e : fv σ (ci + 1) a k = .int (sI σ (ci + 1) a k) := by unfold fv; rw [if_neg (by rw [show ci + 1 - 1 = ci from rfl, hr]; decide)]
  rw [e]
  exact kk C H locs arr hA hl hL
theorem V.getr (hd : decode cc pc = .ok (.getfield idx, 3)) (hf : FL own idx ci k) (hr : fRef ci k = true) (hty : sT σ a = ci + 1) {r : Option Nat} (hv : sR σ (ci + 1) a k = r) (kk : V E X own mn cc nL ret d mc ms Q σ nc ns (pc + 3) ls (va_rf r :: st)) : V E X own mn cc nL ret d mc ms Q σ nc ns pc ls (.ref a :: st) := by
  intro C H locs arr hA hl hL
  refine getW C hf ((hA.cell hty (by omega)).2.ob hf.1) hd ?_
  have e : fv σ (ci + 1) a k = va_rf r := by unfold fv; rw [if_pos (by rw [show ci + 1 - 1 = ci from rfl, hr]), hv]
  rw [e]
  exact kk C H locs arr hA hl hL
theorem V.getS (hd : decode cc pc = .ok (.getfield idx, 3)) (hf : FL own idx ci k) (hr : fRef ci k = true) (hty : sT σ a = ci + 1) {b : Nat} (hv : sR σ (ci + 1) a k = some b) (kk : V E X own mn cc nL ret d mc ms Q σ nc ns (pc + 3) ls (.ref b :: st)) : V E X own mn cc nL ret d mc ms Q σ nc ns pc ls (.ref a :: st) := V.getr hd hf hr hty hv kk
theorem V.getN (hd : decode cc pc = .ok (.getfield idx, 3)) (hf : FL own idx ci k) (hr : fRef ci k = true) (hty : sT σ a = ci + 1) (hv : sR σ (ci + 1) a k = none) (kk : V E X own mn cc nL ret d mc ms Q σ nc ns (pc + 3) ls (.null :: st)) : V E X own mn cc nL ret d mc ms Q σ nc ns pc ls (.ref a :: st) := V.getr hd hf hr hty hv kk
theorem fv_updI {σ : Sg} {ci a k : Nat} {v : Int32} (hr : fRef ci k = false) : ∀ j, updV (fv σ (ci + 1) a) k (.int v) j = fv (wI σ (ci + 1) a k v) (ci + 1) a j := by
  intro j
  unfold updV fv
  rw [sI_wI, sR_wI]
  by_cases e : j = k
  · subst e
    rw [if_pos rfl, show ci + 1 - 1 = ci from rfl, hr, if_neg (by decide), if_pos ⟨rfl, rfl, rfl⟩]
  · have e2 : ¬ (ci + 1 = ci + 1 ∧ a = a ∧ j = k) := fun q => e q.2.2
    rw [if_neg e, if_neg e2]
theorem fv_updR {σ : Sg} {ci a k : Nat} {v : Option Nat} (hr : fRef ci k = true) : ∀ j, updV (fv σ (ci + 1) a) k (va_rf v) j = fv (wR σ (ci + 1) a k v) (ci + 1) a j := by
  intro j
  unfold updV fv
  rw [sI_wR, sR_wR]
  by_cases e : j = k
  · subst e
    rw [if_pos rfl, show ci + 1 - 1 = ci from rfl, hr, if_pos rfl, if_pos ⟨rfl, rfl, rfl⟩]
  · have e2 : ¬ (ci + 1 = ci + 1 ∧ a = a ∧ j = k) := fun q => e q.2.2
    rw [if_neg e, if_neg e2]
/-- a number's field is written; z: a truth value, 0 or 1 -/
theorem V.puti0 {v : Int32} (hd : decode cc pc = .ok (.putfield idx, 3)) (hf : FL own idx ci k) (hfin : (cT ci k).2.2.2 = false ∨ ((cT ci k).2.2.2 = true ∧ mn = "<init>" ∧ (cT ci k).1 = own)) (hr : fRef ci k = false) (hn : narrow (cTy ci k) (.int v) = .int v) (hfit : fits (cTy ci k) (.int v) = true) (hty : sT σ a = ci + 1) (kk : V E X own mn cc nL ret d mc ms Q (wI σ (ci + 1) a k v) nc ns (pc + 3) ls st) : V E X own mn cc nL ret d mc ms Q σ nc ns pc ls (.int v :: .ref a :: st) := by
  intro C H locs arr hA hl hL
  have hc := hA.cell hty (by omega)
  refine putW C hf (hc.2.ob hf.1) hfin hn hfit hd fun H' sl hO z oq => ?_
  refine kk C H' _ arr (hA.put hty (by omega) z oq rfl (fun _ => rfl) rfl (fun b hb t' k' => ?_) (fun _ _ _ _ => rfl) (cOK.of_ob hf.1 (hO.to fun j _ => fv_updI hr j))) (locs_add hl hc.1) hL
  rw [sI_wI, if_neg (fun q => hb q.2.1)]
theorem V.puti {v : Int32} (hd : decode cc pc = .ok (.putfield idx, 3)) (hf : FL own idx ci k) (hfin : (cT ci k).2.2.2 = false) (hi : cTy ci k = .int) (hty : sT σ a = ci + 1) (kk : V E X own mn cc nL ret d mc ms Q (wI σ (ci + 1) a k v) nc ns (pc + 3) ls st) : V E X own mn cc nL ret d mc ms Q σ nc ns pc ls (.int v :: .ref a :: st) :=
  V.puti0 hd hf (Or.inl hfin) (by unfold fRef; rw [hi]) (by rw [hi]; rfl) (by rw [hi]; rfl) hty kk
theorem V.putFi {v : Int32} (hd : decode cc pc = .ok (.putfield idx, 3)) (hf : FL own idx ci k) (hfin : (cT ci k).2.2.2 = true) (hmn : mn = "<init>") (hown : (cT ci k).1 = own) (hi : cTy ci k = .int) (hty : sT σ a = ci + 1) (kk : V E X own mn cc nL ret d mc ms Q (wI σ (ci + 1) a k v) nc ns (pc + 3) ls st) : V E X own mn cc nL ret d mc ms Q σ nc ns pc ls (.int v :: .ref a :: st) :=
  V.puti0 hd hf (Or.inr ⟨hfin, hmn, hown⟩) (by unfold fRef; rw [hi]) (by rw [hi]; rfl) (by rw [hi]; rfl) hty kk
theorem V.putz {v : Int32} (hd : decode cc pc = .ok (.putfield idx, 3)) (hf : FL own idx ci k) (hfin : (cT ci k).2.2.2 = false) (hi : cTy ci k = .boolean) (h01 : v = 0 ∨ v = 1) (hty : sT σ a = ci + 1) (kk : V E X own mn cc nL ret d mc ms Q (wI σ (ci + 1) a k v) nc ns (pc + 3) ls st) : V E X own mn cc nL ret d mc ms Q σ nc ns pc ls (.int v :: .ref a :: st) :=
  V.puti0 hd hf (Or.inl hfin) (by unfold fRef; rw [hi]) (by rw [hi]; rcases h01 with rfl | rfl <;> rfl) (by rw [hi]; rcases h01 with rfl | rfl <;> rfl) hty kk
theorem V.putFz {v : Int32} (hd : decode cc pc = .ok (.putfield idx, 3)) (hf : FL own idx ci k) (hfin : (cT ci k).2.2.2 = true) (hmn : mn = "<init>") (hown : (cT ci k).1 = own) (hi : cTy ci k = .boolean) (h01 : v = 0 ∨ v = 1) (hty : sT σ a = ci + 1) (kk : V E X own mn cc nL ret d mc ms Q (wI σ (ci + 1) a k v) nc ns (pc + 3) ls st) : V E X own mn cc nL ret d mc ms Q σ nc ns pc ls (.int v :: .ref a :: st) :=
  V.puti0 hd hf (Or.inr ⟨hfin, hmn, hown⟩) (by unfold fRef; rw [hi]) (by rw [hi]; rcases h01 with rfl | rfl <;> rfl) (by rw [hi]; rcases h01 with rfl | rfl <;> rfl) hty kk
def isRefTy : FieldType → Bool
  | .object _ => true
  | .array _ => true
  | _ => false
theorem V.putr0 {v : Option Nat} (hd : decode cc pc = .ok (.putfield idx, 3)) (hf : FL own idx ci k) (hfin : (cT ci k).2.2.2 = false ∨ ((cT ci k).2.2.2 = true ∧ mn = "<init>" ∧ (cT ci k).1 = own)) (hi : isRefTy (cTy ci k) = true) (hty : sT σ a = ci + 1) (kk : V E X own mn cc nL ret d mc ms Q (wR σ (ci + 1) a k v) nc ns (pc + 3) ls st) : V E X own mn cc nL ret d mc ms Q σ nc ns pc ls (va_rf v :: .ref a :: st) := by
  have hr : fRef ci k = true := by
    unfold fRef
    revert hi
    cases cTy ci k <;> simp [isRefTy]
  have hnf : narrow (cTy ci k) (va_rf v) = va_rf v ∧ fits (cTy ci k) (va_rf v) = true := by
    revert hi
    cases cTy ci k <;> simp [isRefTy] <;> cases v <;> simp [va_rf, narrow, fits, Value.isRef]
  intro C H locs arr hA hl hL
  have hc := hA.cell hty (by omega)
  refine putW C hf (hc.2.ob hf.1) hfin hnf.1 hnf.2 hd fun H' sl hO z oq => ?_
  refine kk C H' _ arr (hA.put hty (by omega) z oq rfl (fun _ => rfl) rfl (fun _ _ _ _ => rfl) (fun b hb t' k' => ?_) (cOK.of_ob hf.1 (hO.to fun j _ => fv_updR hr j))) (locs_add hl hc.1) hL
  rw [sR_wR, if_neg (fun q => hb q.2.1)]
theorem V.putr {v : Nat} (hd : decode cc pc = .ok (.putfield idx, 3)) (hf : FL own idx ci k) (hfin : (cT ci k).2.2.2 = false) (hi : isRefTy (cTy ci k) = true) (hty : sT σ a = ci + 1) (kk : V E X own mn cc nL ret d mc ms Q (wR σ (ci + 1) a k (some v)) nc ns (pc + 3) ls st) : V E X own mn cc nL ret d mc ms Q σ nc ns pc ls (.ref v :: .ref a :: st) := V.putr0 (v := some v) hd hf (Or.inl hfin) hi hty kk
theorem V.putN (hd : decode cc pc = .ok (.putfield idx, 3)) (hf : FL own idx ci k) (hfin : (cT ci k).2.2.2 = false) (hi : isRefTy (cTy ci k) = true) (hty : sT σ a = ci + 1) (kk : V E X own mn cc nL ret d mc ms Q (wR σ (ci + 1) a k none) nc ns (pc + 3) ls st) : V E X own mn cc nL ret d mc ms Q σ nc ns pc ls (.null :: .ref a :: st) := V.putr0 (v := none) hd hf (Or.inl hfin) hi hty kk
theorem V.putFr {v : Nat} (hd : decode cc pc = .ok (.putfield idx, 3)) (hf : FL own idx ci k) (hfin : (cT ci k).2.2.2 = true) (hmn : mn = "<init>") (hown : (cT ci k).1 = own) (hi : isRefTy (cTy ci k) = true) (hty : sT σ a = ci + 1) (kk : V E X own mn cc nL ret d mc ms Q (wR σ (ci + 1) a k (some v)) nc ns (pc + 3) ls st) : V E X own mn cc nL ret d mc ms Q σ nc ns pc ls (.ref v :: .ref a :: st) := V.putr0 (v := some v) hd hf (Or.inr ⟨hfin, hmn, hown⟩) hi hty kk
theorem V.putFN (hd : decode cc pc = .ok (.putfield idx, 3)) (hf : FL own idx ci k) (hfin : (cT ci k).2.2.2 = true) (hmn : mn = "<init>") (hown : (cT ci k).1 = own) (hi : isRefTy (cTy ci k) = true) (hty : sT σ a = ci + 1) (kk : V E X own mn cc nL ret d mc ms Q (wR σ (ci + 1) a k none) nc ns (pc + 3) ls st) : V E X own mn cc nL ret d mc ms Q σ nc ns pc ls (.null :: .ref a :: st) := V.putr0 (v := none) hd hf (Or.inr ⟨hfin, hmn, hown⟩) hi hty kk
end VHEAP
