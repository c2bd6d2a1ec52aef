/-! ===== rows for the model's cells, static arrays, answers, a method's entry, calls ===== -/
theorem rV_upd {q : Nat → Nat} {G : Nat → Nat → Int32} {k : Nat} {v : Int32} (hk : rA k = false) : ∀ j, updV (rV q G) k (.int v) j = rV q (u2 G k 0 v) j := by
  intro j
  unfold updV rV
  by_cases e : j = k
  · subst e
    rw [if_pos rfl, hk, if_neg (by decide)]
    simp [u2]
  · rw [if_neg e]
    have e2 : u2 G k 0 v j 0 = G j 0 := by simp [u2, e]
    rw [e2]
theorem u2_row {G : Nat → Nat → Int32} {k j : Nat} {v : Int32} {i : Nat} (h : i ≠ k) : u2 G k j v i = G i := by
  funext n
  simp [u2, h]
theorem RefAt.ob {E : VE} {G : Nat → Nat → Int32} {H : Heap} (h : RefAt E G H) : t_OB (eQ E 48) ((eD E).1 11) (cN 11) ((eD E).2 11) H (rV (eQ E) G) := h.2.2.1
section VREF
variable {E : VE} {X : VX} {own mn : String} {cc : ByteArray} {nL : Nat} {ret : Option FieldType} {d mc ms : Nat} {Q : State → Prop} {σ : Sg} {nc ns pc : Nat} {ls : List (Option Value)} {st : List Value} {idx k j : Nat} {G : Nat → Nat → Int32}
/-- a number of the model is read -/
theorem V.mgeti (hE : eF E = true) (hd : decode cc pc = .ok (.getfield idx, 3)) (hf : FL own idx 11 k) (hk : rA k = false) (kk : V E X own mn cc nL ret d mc ms Q (wG σ G) nc ns (pc + 3) ls (.int (G k 0) :: st)) : V E X own mn cc nL ret d mc ms Q (wG σ G) nc ns pc ls (.ref (eQ E 48) :: st) := by
  intro C H locs arr hA hl hL
  refine getW C hf (hA.2.2.2.2 hE).1.ob hd ?_
  have e : rV (eQ E) (sG (wG σ G)) k = .int (G k 0) := by unfold rV; rw [if_neg (by rw [hk]; decide)]; rfl
  rw [e]
  exact kk C H locs arr hA hl hL
/-- a row of the model -/
theorem V.mgeta (hE : eF E = true) (hd : decode cc pc = .ok (.getfield idx, 3)) (hf : FL own idx 11 k) (hk : rA k = true) (kk : V E X own mn cc nL ret d mc ms Q (wG σ G) nc ns (pc + 3) ls (.ref (eQ E k) :: st)) : V E X own mn cc nL ret d mc ms Q (wG σ G) nc ns pc ls (.ref (eQ E 48) :: st) := by
  intro C H locs arr hA hl hL
  refine getW C hf (hA.2.2.2.2 hE).1.ob hd ?_
  have e : rV (eQ E) (sG (wG σ G)) k = .ref (eQ E k) := by unfold rV; rw [if_pos hk]
  rw [e]
  exact kk C H locs arr hA hl hL
theorem V.mputi {v : Int32} (hE : eF E = true) (hd : decode cc pc = .ok (.putfield idx, 3)) (hf : FL own idx 11 k) (hk : rA k = false) (hfin : (cT 11 k).2.2.2 = false) (hi : cTy 11 k = .int) (kk : V E X own mn cc nL ret d mc ms Q (wG σ (u2 G k 0 v)) nc ns (pc + 3) ls st) : V E X own mn cc nL ret d mc ms Q (wG σ G) nc ns pc ls (.int v :: .ref (eQ E 48) :: st) := by
  intro C H locs arr hA hl hL
  have hR := (hA.2.2.2.2 hE).1
  refine putW C hf hR.ob (Or.inl hfin) (by rw [hi]; rfl) (by rw [hi]; rfl) hd fun H' sl hO z oq => ?_
  refine kk C H' _ arr (hA.putG (G' := u2 G k 0 v) hE (Or.inl rfl) z oq ⟨hR.1, hR.2.1, hO.to (fun i _ => rV_upd hk i), fun i hi => ?_⟩) (locs_add hl (hR.1 48 (Or.inl rfl))) hL
  have hne : i ≠ k := fun e => by rw [e, hk] at hi; cases hi
  rw [u2_row hne, oq _ (fun e => by
    have := hR.2.1 i 48 (Or.inr hi) (Or.inl rfl) e
    subst this
    cases hi)]
  exact hR.2.2.2 i hi
theorem rL_lt : ∀ k, rL k < 2 ^ 31 := by
  intro k
  unfold rL
  split <;> decide
theorem V.miald {x : Int32} (hE : eF E = true) (hd : decode cc pc = .ok (.iaload, 1)) (hk : rA k = true) (hz : rK k = 0) (hx : x = nI j) (hj : j < rL k) (kk : V E X own mn cc nL ret d mc ms Q (wG σ G) nc ns (pc + 1) ls (.int (G k j) :: st)) : V E X own mn cc nL ret d mc ms Q (wG σ G) nc ns pc ls (.int x :: .ref (eQ E k) :: st) := by
  intro C H locs arr hA hl hL
  have hc := (hA.2.2.2.2 hE).1.2.2.2 k hk
  rw [hz] at hc
  obtain ⟨h1, h2⟩ := in_nI hx hj (rL_lt k)
  have hlt : x.toNatClampNeg < rL k := by omega
  have hK := (kTy C.2.2.2.2.2.1.1 (k := 0) (by omega)).1
  refine W.iald (v := .int (G k j)) C.1 C.2.1 hc (hK _ (fun i => .int (G k i))) (fun q => by cases q) (by show ¬ (x < 0 ∨ (arrV _ _ _).slots.size ≤ _); rw [arrV_size]; exact h1) (by show (arrV _ _ _).slots[_]? = _; rw [arrV_read _ _ hlt, h2]; rfl) rfl rfl hd ?_
  exact kk C H locs arr hA hl hL
theorem V.mzald {x : Int32} (hE : eF E = true) (hd : decode cc pc = .ok (.baload, 1)) (hk : rA k = true) (hz : rK k = 1) (hx : x = nI j) (hj : j < rL k) (kk : V E X own mn cc nL ret d mc ms Q (wG σ G) nc ns (pc + 1) ls (.int (G k j) :: st)) : V E X own mn cc nL ret d mc ms Q (wG σ G) nc ns pc ls (.int x :: .ref (eQ E k) :: st) := by
  intro C H locs arr hA hl hL
  have hc := (hA.2.2.2.2 hE).1.2.2.2 k hk
  rw [hz] at hc
  obtain ⟨h1, h2⟩ := in_nI hx hj (rL_lt k)
  have hlt : x.toNatClampNeg < rL k := by omega
  have hK := (kTy C.2.2.2.2.2.1.1 (k := 1) (by omega)).1
  refine W.zald (v := .int (G k j)) C.1 C.2.1 hc (hK _ (fun i => .int (G k i))) (fun q => by cases q) (by show ¬ (x < 0 ∨ (arrV _ _ _).slots.size ≤ _); rw [arrV_size]; exact h1) (by show (arrV _ _ _).slots[_]? = _; rw [arrV_read _ _ hlt, h2]; rfl) rfl rfl hd ?_
  exact kk C H locs arr hA hl hL
theorem RefAt.row {E : VE} {G : Nat → Nat → Int32} {H H1 : Heap} {k j : Nat} {v : Int32} (hR : RefAt E G H) (hk : rA k = true) (oq : ∀ q, q ≠ eQ E k → H1[q]? = H[q]?) (e : H1[eQ E k]? = some (vp_cell (eA E (rK k)) (rL k, .inl (u2 G k j v k)))) : RefAt E (u2 G k j v) H1 := by
  refine ⟨hR.1, hR.2.1, ?_, fun i hi => ?_⟩
  · have h48 : H1[eQ E 48]? = H[eQ E 48]? := oq _ (fun e => by
      have := hR.2.1 48 k (Or.inl rfl) (Or.inr hk) e
      subst this
      cases hk)
    refine (hR.2.2.1.kept h48).to fun i hi => ?_
    unfold rV
    by_cases hri : rA i = true
    · rw [if_pos hri, if_pos hri]
    · rw [if_neg hri, if_neg hri]
      have hne : i ≠ k := fun e => hri (by rw [e]; exact hk)
      rw [u2_row hne]
  · by_cases hik : i = k
    · subst hik
      exact e
    · rw [u2_row hik, oq _ (fun e => hik (hR.2.1 i k (Or.inr hi) (Or.inr hk) e))]
      exact hR.2.2.2 i hi
theorem V.miast {x v : Int32} (hE : eF E = true) (hd : decode cc pc = .ok (.iastore, 1)) (hk : rA k = true) (hz : rK k = 0) (hx : x = nI j) (hj : j < rL k) (kk : V E X own mn cc nL ret d mc ms Q (wG σ (u2 G k j v)) nc ns (pc + 1) ls st) : V E X own mn cc nL ret d mc ms Q (wG σ G) nc ns pc ls (.int v :: .int x :: .ref (eQ E k) :: st) := by
  intro C H locs arr hA hl hL
  have hR := (hA.2.2.2.2 hE).1
  have hc := hR.2.2.2 k hk
  rw [hz] at hc
  obtain ⟨h1, h2⟩ := in_nI hx hj (rL_lt k)
  have hK := (kTy C.2.2.2.2.2.1.1 (k := 0) (by omega)).1
  refine W.iast C.1 C.2.1 hc (hK _ (fun i => .int (G k i))) (fun q => by cases q) (by show ¬ (x < 0 ∨ (arrV _ _ _).slots.size ≤ _); rw [arrV_size]; exact h1) rfl rfl hd fun H1 e z oq => ?_
  refine kk C H1 _ arr (hA.putG hE (Or.inr hk) z oq (hR.row hk oq ?_)) (locs_add hl (hR.1 k (Or.inr hk))) hL
  rw [e, hz]
  rw [vp_cell_i, vp_cell_i, arrV_store]
  congr 2
  funext q
  rw [h2]
  by_cases hq : q = j
  · subst hq
    simp [updV, u2]
  · simp [updV, u2, hq]
theorem V.mzast {x v : Int32} (hE : eF E = true) (hd : decode cc pc = .ok (.bastore, 1)) (hk : rA k = true) (hz : rK k = 1) (h01 : v = 0 ∨ v = 1) (hx : x = nI j) (hj : j < rL k) (kk : V E X own mn cc nL ret d mc ms Q (wG σ (u2 G k j v)) nc ns (pc + 1) ls st) : V E X own mn cc nL ret d mc ms Q (wG σ G) nc ns pc ls (.int v :: .int x :: .ref (eQ E k) :: st) := by
  intro C H locs arr hA hl hL
  have hR := (hA.2.2.2.2 hE).1
  have hc := hR.2.2.2 k hk
  rw [hz] at hc
  obtain ⟨h1, h2⟩ := in_nI hx hj (rL_lt k)
  have hK := (kTy C.2.2.2.2.2.1.1 (k := 1) (by omega)).1
  refine W.zast C.1 C.2.1 hc (hK _ (fun i => .int (G k i))) (fun q => by cases q) (by show ¬ (x < 0 ∨ (arrV _ _ _).slots.size ≤ _); rw [arrV_size]; exact h1) rfl rfl hd fun H1 e z oq => ?_
  refine kk C H1 _ arr (hA.putG hE (Or.inr hk) z oq (hR.row hk oq ?_)) (locs_add hl (hR.1 k (Or.inr hk))) hL
  rw [show narrow .boolean (.int v) = .int v by rcases h01 with rfl | rfl <;> rfl] at e
  rw [e, hz]
  rw [vp_cell_i, vp_cell_i, arrV_store]
  congr 2
  funext q
  rw [h2]
  by_cases hq : q = j
  · subst hq
    simp [updV, u2]
  · simp [updV, u2, hq]
/-- the static arrays -/
def sFld (i : Nat) : String := if i = 0 then "ABOVE" else "LOOK_HOURS"
def sRow (i : Nat) : Nat → Int32 := if i = 0 then above else lookHours
theorem KK.stat {E : VE} {U : State} (h : KK E U) {i : Nat} (hi : i < 2) : va_Z RX10 (sFld i) "[I" (.ref (eS E i)) (fun a => (eH E).size ≤ a) U (eH E) ∧ va_T .int (eS E i) 4 (fun j => .int (sRow i j)) (fun a => (eH E).size ≤ a) U (eH E) := by
  rcases (show i = 0 ∨ i = 1 by omega) with rfl | rfl
  · exact h.2.2.2.1
  · exact h.2.2.2.2
theorem V.gets {i : Nat} (hi : i < 2) (hd : decode cc pc = .ok (.getstatic idx, 3)) (hf : Cond.fieldLink own idx RX10 (sFld i) "[I" ∈ BIG) (kk : V E X own mn cc nL ret d mc ms Q σ nc ns (pc + 3) ls (.ref (eS E i) :: st)) : V E X own mn cc nL ret d mc ms Q σ nc ns pc ls st := by
  intro C H locs arr hA hl hL
  obtain ⟨cf, kf, fi, f, a, cell, h1, h2, h3, h4, h5, h6, h7, h8⟩ := (C.2.2.2.2.2.1.stat hi).1
  refine W.gets C.1 C.2.1 C.2.2.2.1 (C.2.2.2.2.1 _ hf) h1 h2 h3 h4 (by rw [hA.2.2.1 a (by omega)]; exact h5) (fun e => by rw [e] at h6; cases h6) h7 rfl hd ?_
  exact kk C H locs arr hA hl hL
theorem V.sald {i : Nat} {x : Int32} (hi : i < 2) (hd : decode cc pc = .ok (.iaload, 1)) (hx : x = nI j) (hj : j < 4) (kk : V E X own mn cc nL ret d mc ms Q σ nc ns (pc + 1) ls (.int (sRow i j) :: st)) : V E X own mn cc nL ret d mc ms Q σ nc ns pc ls (.int x :: .ref (eS E i) :: st) := by
  intro C H locs arr hA hl hL
  obtain ⟨cell, h1, h2, h3, h4, h5, h6, h7⟩ := (C.2.2.2.2.2.1.stat hi).2
  obtain ⟨g1, g2⟩ := in_nI hx hj (by omega)
  have hlt : x.toNatClampNeg < 4 := by omega
  refine W.iald (v := .int (sRow i j)) C.1 C.2.1 (by rw [hA.2.2.1 _ (by omega)]; exact h1) h2 h3 (fun q => ?_) (by rw [g2]; exact h6 j hj) rfl rfl hd ?_
  · rcases q with q | q
    · exact g1 (Or.inl q)
    · omega
  · exact kk C H locs arr hA hl hL
end VREF
/-! ===== contracts ===== -/
def rmL (d mc ms : Nat) : Room := { frames := d, cells := mc, slots := ms, locals := 100 * d }
def QA (E : VE) (post : Option Value → Sg → Prop) : Array Value → State → Outcome → State → Prop := fun _ _ oc t => ∃ (r : Option Value) (σ' : Sg), oc = .returned r ∧ post r σ' ∧ AH E σ' t.heap
def QM (E : VE) (X : VX) (post : Option Value → Sg → Prop) (mc ms : Nat) : State → Prop := MQ (xB X) (QA E post) (xA X) (xS X) mc ms (fun a => (eH E).size ≤ a)
/-- the contract of a method: at these arguments and this state it returns, and answer and state are as 'post' says -/
def MA (E : VE) (y : MethodName) (cc : ByteArray) (nL : Nat) (ret : Option FieldType) (d mc ms : Nat) (argv : List Value) (σ : Sg) (post : Option Value → Sg → Prop) : Prop :=
  Met (eL E) y (Cond.code y cc nL ret :: BIG) (rmL d mc ms) (va_Pc argv (fun U => AH E σ U.heap ∧ KK E U)) (QA E post) mc ms (fun a => (eH E).size ≤ a)
section VRET
variable {E : VE} {X : VX} {own mn : String} {cc : ByteArray} {nL : Nat} {ret : Option FieldType} {d mc ms : Nat} {σ : Sg} {nc ns pc : Nat} {ls : List (Option Value)} {post : Option Value → Sg → Prop}
theorem V.iret {v : Int32} (hd : decode cc pc = .ok (.ireturn, 1)) (h1 : nc ≤ mc) (h2 : ns ≤ ms) (hp : post (some (.int v)) σ) : V E X own mn cc nL (some .int) d mc ms (QM E X post mc ms) σ nc ns pc ls [.int v] := fun C H locs arr hA hl hL =>
  W.widen h1 h2 (W.iret C.1 C.2.1 C.2.2.2.2.2.2.2.2.1 (fun t ht _ => ⟨_, σ, rfl, hp, by rw [ht]; exact hA⟩) hl hd C.2.2.2.2.2.2.1)
theorem V.zret {v : Int32} (hd : decode cc pc = .ok (.ireturn, 1)) (h01 : v = 0 ∨ v = 1) (h1 : nc ≤ mc) (h2 : ns ≤ ms) (hp : post (some (.int v)) σ) : V E X own mn cc nL (some .boolean) d mc ms (QM E X post mc ms) σ nc ns pc ls [.int v] := fun C H locs arr hA hl hL =>
  W.widen h1 h2 (W.zret C.1 C.2.1 C.2.2.2.2.2.2.2.2.1 (by rcases h01 with rfl | rfl <;> rfl) (fun t ht _ => ⟨_, σ, rfl, hp, by rw [ht]; exact hA⟩) hl hd C.2.2.2.2.2.2.1)
theorem V.vret (hd : decode cc pc = .ok (.return_, 1)) (h1 : nc ≤ mc) (h2 : ns ≤ ms) (hp : post none σ) : V E X own mn cc nL none d mc ms (QM E X post mc ms) σ nc ns pc ls [] := fun C H locs arr hA hl hL =>
  W.widen h1 h2 (W.vret C.1 C.2.1 C.2.2.2.2.2.2.2.2.1 (fun t ht _ => ⟨_, σ, rfl, hp, by rw [ht]; exact hA⟩) hl hd C.2.2.2.2.2.2.1)
theorem V.aret {v : Nat} {rt : String} (hd : decode cc pc = .ok (.areturn, 1)) (h1 : nc ≤ mc) (h2 : ns ≤ ms) (hp : post (some (.ref v)) σ) : V E X own mn cc nL (some (.object rt)) d mc ms (QM E X post mc ms) σ nc ns pc ls [.ref v] := fun C H locs arr hA hl hL =>
  W.widen h1 h2 (W.aret C.1 C.2.1 C.2.2.2.2.2.2.2.2.1 (Or.inl ⟨_, rfl⟩) (Or.inr ⟨_, rfl⟩) (fun t ht _ => ⟨_, σ, rfl, hp, by rw [ht]; exact hA⟩) hl hd C.2.2.2.2.2.2.1)
theorem V.aretN {rt : String} (hd : decode cc pc = .ok (.areturn, 1)) (h1 : nc ≤ mc) (h2 : ns ≤ ms) (hp : post (some .null) σ) : V E X own mn cc nL (some (.object rt)) d mc ms (QM E X post mc ms) σ nc ns pc ls [.null] := fun C H locs arr hA hl hL =>
  W.widen h1 h2 (W.aret C.1 C.2.1 C.2.2.2.2.2.2.2.2.1 (Or.inl ⟨_, rfl⟩) (Or.inl rfl) (fun t ht _ => ⟨_, σ, rfl, hp, by rw [ht]; exact hA⟩) hl hd C.2.2.2.2.2.2.1)
end VRET
theorem lget_args : ∀ (vs : List Value) (n i : Nat) (v : Value), lget (vs.map some ++ List.replicate n none) i = some v → vs[i]? = some v
  | [], n, i, v, h => by
    exfalso
    rw [List.map_nil, List.nil_append] at h
    induction n generalizing i with
    | zero => cases h
    | succ n ih => cases i with
      | zero => cases h
      | succ i => exact ih i h
  | x :: vs, n, 0, v, h => by simpa [lget] using h
  | x :: vs, n, i + 1, v, h => by
    have := lget_args vs n i v h
    simpa using this
theorem lg_sl_cat1 : ∀ (vs : List Value), (∀ v ∈ vs, v.category = 1) → lg_sl vs = vs.map Slot.val
  | [], _ => rfl
  | x :: vs, h => by
    have h1 := lg_sl_cat1 vs (fun v hv => h v (List.mem_cons_of_mem _ hv))
    unfold lg_sl at h1 ⊢
    rw [List.flatMap_cons, h1, if_neg (by rw [h x List.mem_cons_self]; decide)]
    rfl
theorem MA.of {E : VE} {y : MethodName} {cc : ByteArray} {nL : Nat} {ret : Option FieldType} {d mc ms : Nat} {argv : List Value} {σ : Sg} {post : Option Value → Sg → Prop} (own mn : String) (ls : List (Option Value)) (hy : plainName y.cls = true) (ho : y.cls = own) (hm : y.name = mn) (hcat : ∀ v ∈ argv, v.category = 1) (hlen : argv.length ≤ nL) (hls : argv.map some ++ List.replicate (nL - argv.length) none = ls)
    (h : ∀ X, V E X own mn cc nL ret d mc ms (QM E X post mc ms) σ 0 0 0 ls []) : MA E y cc nL ret d mc ms argv σ post := by
  refine Met.ofW (cc := cc) (maxL := nL) (ret := ret) hy rfl ?_
  intro p e s m args below meth c s₁ B hml hv
  obtain ⟨rfl, hA, hK⟩ := hv
  have hts := atoms_spec (ws := Cond.code y cc nL ret :: BIG) B.pre
  have hsl := lg_sl_cat1 argv hcat
  have hE := lv_entry argv (n := nL) (by rw [hsl, List.length_map]; exact hlen)
  rw [lg_entry_eq]
  refine h (p, e, (headSpec (Cond.code y cc nL ret :: BIG) (rmL d mc ms)).room, s, m, argv.toArray, below, meth, c) ⟨B.exec, B.bytes, hml, by rw [← ho]; exact findClass_of_methodNamed B.named, fun w hw => hts w (List.mem_cons_of_mem _ hw), hK, B.notSynchronized, by rw [← hm]; exact (name_of_methodNamed B.named B.method).1, B.returns, Nat.le_refl _, Nat.le_refl _, Nat.le_refl _, Nat.le_refl _⟩ s.heap [] _ hA (fun q hq => by cases hq) ⟨hE.1, hE.2.1, fun i v hi => ?_⟩
  rw [← hls] at hi
  have h1 := lget_args _ _ _ _ hi
  refine ⟨?_, hcat v (List.mem_of_getElem? h1)⟩
  rw [hsl, List.getElem?_toArray, List.getElem?_append_left (by rw [List.length_map]; exact (List.getElem?_eq_some_iff.mp h1).1), List.getElem?_map, h1]
  rfl
