/-! ===== the words that every contract carries: all good ones of the tables ===== -/
def BIG : List Cond := lw_tbl.filter goodWord
theorem big_in {w : Cond} (i : Nat) (h : lw_tbl[i]? = some w) (g : goodWord w = true) : w ∈ BIG := List.mem_filter.mpr ⟨List.mem_of_getElem? h, g⟩
theorem big_good : ∀ w ∈ BIG, (w.onTables && w.keeps) = true ∨ ∃ ty, w = .arrayClass ty := fun w h => good_of_word (List.mem_filter.mp h).2
/-! ===== the abstract state: next address, the tag of each address, numbers and references by tag, address and place; the model's rows ===== -/
abbrev Sg : Type := Nat × (Nat → Nat) × (Nat → Nat → Nat → Int32) × (Nat → Nat → Nat → Option Nat) × (Nat → Nat → Int32)
def sN (σ : Sg) : Nat := σ.1
def sT (σ : Sg) (a : Nat) : Nat := σ.2.1 a
def sI (σ : Sg) (t a : Nat) : Nat → Int32 := σ.2.2.1 t a
def sR (σ : Sg) (t a : Nat) : Nat → Option Nat := σ.2.2.2.1 t a
def sG (σ : Sg) : Nat → Nat → Int32 := σ.2.2.2.2
def u3 {α : Type} (f : Nat → Nat → Nat → α) (t a k : Nat) (v : α) : Nat → Nat → Nat → α := fun t' a' k' => if t' = t ∧ a' = a ∧ k' = k then v else f t' a' k'
def u2 {α : Type} (f : Nat → Nat → α) (k j : Nat) (v : α) : Nat → Nat → α := fun k' j' => if k' = k ∧ j' = j then v else f k' j'
def wI (σ : Sg) (t a k : Nat) (v : Int32) : Sg := (σ.1, σ.2.1, u3 σ.2.2.1 t a k v, σ.2.2.2.1, σ.2.2.2.2)
def wR (σ : Sg) (t a k : Nat) (v : Option Nat) : Sg := (σ.1, σ.2.1, σ.2.2.1, u3 σ.2.2.2.1 t a k v, σ.2.2.2.2)
def wG (σ : Sg) (g : Nat → Nat → Int32) : Sg := (σ.1, σ.2.1, σ.2.2.1, σ.2.2.2.1, g)
def wN (σ : Sg) (t : Nat) : Sg := (σ.1 + 1, fun a => if a = σ.1 then t else σ.2.1 a, fun t' a k => if t' = t ∧ a = σ.1 then 0 else σ.2.2.1 t' a k, fun t' a k => if t' = t ∧ a = σ.1 then none else σ.2.2.2.1 t' a k, σ.2.2.2.2)
/-- a whole row of numbers anew -/
def wA (σ : Sg) (t a : Nat) (f : Nat → Int32) : Sg := (σ.1, σ.2.1, fun t' a' k' => if t' = t ∧ a' = a then f k' else σ.2.2.1 t' a' k', σ.2.2.2.1, σ.2.2.2.2)
theorem sI_wI (σ : Sg) (t a k : Nat) (v : Int32) (t' a' k' : Nat) : sI (wI σ t a k v) t' a' k' = if t' = t ∧ a' = a ∧ k' = k then v else sI σ t' a' k' := rfl
theorem sI_wR (σ : Sg) (t a k : Nat) (v : Option Nat) (t' a' k' : Nat) : sI (wR σ t a k v) t' a' k' = sI σ t' a' k' := rfl
theorem sI_wG (σ : Sg) (g : Nat → Nat → Int32) (t' a' k' : Nat) : sI (wG σ g) t' a' k' = sI σ t' a' k' := rfl
theorem sI_wN (σ : Sg) (t t' a' k' : Nat) : sI (wN σ t) t' a' k' = if t' = t ∧ a' = sN σ then 0 else sI σ t' a' k' := rfl
theorem sI_wA (σ : Sg) (t a : Nat) (f : Nat → Int32) (t' a' k' : Nat) : sI (wA σ t a f) t' a' k' = if t' = t ∧ a' = a then f k' else sI σ t' a' k' := rfl
theorem sR_wI (σ : Sg) (t a k : Nat) (v : Int32) (t' a' k' : Nat) : sR (wI σ t a k v) t' a' k' = sR σ t' a' k' := rfl
theorem sR_wR (σ : Sg) (t a k : Nat) (v : Option Nat) (t' a' k' : Nat) : sR (wR σ t a k v) t' a' k' = if t' = t ∧ a' = a ∧ k' = k then v else sR σ t' a' k' := rfl
theorem sR_wG (σ : Sg) (g : Nat → Nat → Int32) (t' a' k' : Nat) : sR (wG σ g) t' a' k' = sR σ t' a' k' := rfl
theorem sR_wN (σ : Sg) (t t' a' k' : Nat) : sR (wN σ t) t' a' k' = if t' = t ∧ a' = sN σ then none else sR σ t' a' k' := rfl
theorem sR_wA (σ : Sg) (t a : Nat) (f : Nat → Int32) (t' a' k' : Nat) : sR (wA σ t a f) t' a' k' = sR σ t' a' k' := rfl
theorem sT_wI (σ : Sg) (t a k : Nat) (v : Int32) (b : Nat) : sT (wI σ t a k v) b = sT σ b := rfl
theorem sT_wR (σ : Sg) (t a k : Nat) (v : Option Nat) (b : Nat) : sT (wR σ t a k v) b = sT σ b := rfl
theorem sT_wG (σ : Sg) (g : Nat → Nat → Int32) (b : Nat) : sT (wG σ g) b = sT σ b := rfl
theorem sT_wN (σ : Sg) (t b : Nat) : sT (wN σ t) b = if b = sN σ then t else sT σ b := rfl
theorem sT_wA (σ : Sg) (t a : Nat) (f : Nat → Int32) (b : Nat) : sT (wA σ t a f) b = sT σ b := rfl
theorem sN_wI (σ : Sg) (t a k : Nat) (v : Int32) : sN (wI σ t a k v) = sN σ := rfl
theorem sN_wR (σ : Sg) (t a k : Nat) (v : Option Nat) : sN (wR σ t a k v) = sN σ := rfl
theorem sN_wG (σ : Sg) (g : Nat → Nat → Int32) : sN (wG σ g) = sN σ := rfl
theorem sN_wN (σ : Sg) (t : Nat) : sN (wN σ t) = sN σ + 1 := rfl
theorem sN_wA (σ : Sg) (t a : Nat) (f : Nat → Int32) : sN (wA σ t a f) = sN σ := rfl
theorem sG_wI (σ : Sg) (t a k : Nat) (v : Int32) : sG (wI σ t a k v) = sG σ := rfl
theorem sG_wR (σ : Sg) (t a k : Nat) (v : Option Nat) : sG (wR σ t a k v) = sG σ := rfl
theorem sG_wG (σ : Sg) (g : Nat → Nat → Int32) : sG (wG σ g) = g := rfl
theorem sG_wN (σ : Sg) (t : Nat) : sG (wN σ t) = sG σ := rfl
theorem sG_wA (σ : Sg) (t a : Nat) (f : Nat → Int32) : sG (wA σ t a f) = sG σ := rfl
theorem wG_self (σ : Sg) : wG σ (sG σ) = σ := rfl
theorem wG_wG (σ : Sg) (g h : Nat → Nat → Int32) : wG (wG σ g) h = wG σ h := rfl
/-! ===== the classes by number; tags: an object of the class ci has the tag ci + 1 ===== -/
def cR : Nat → String
  | 0 => RX0 | 1 => RX1 | 2 => RX2 | 3 => RX3 | 4 => RX4 | 5 => RX5 | 6 => RX6 | 7 => RX7 | 8 => RX8 | 9 => RX9 | 10 => RX10 | _ => RX11
def cT : Nat → u_T
  | 0 => TX0 | 1 => TX1 | 2 => TX2 | 3 => TX3 | 4 => TX4 | 5 => TX5 | 6 => TX6 | 7 => TX7 | 8 => TX8 | 9 => TX9 | 10 => TX10 | _ => TX11
def cN : Nat → Nat
  | 0 => 7 | 1 => 7 | 2 => 6 | 3 => 2 | 4 => 1 | 5 => 10 | 6 => 4 | 7 => 3 | 8 => 3 | 9 => 4 | 10 => 19 | _ => 48
def cTy : Nat → Nat → FieldType
  | 0 => tyX0 | 1 => tyX1 | 2 => tyX2 | 3 => tyX3 | 4 => tyX4 | 5 => tyX5 | 6 => tyX6 | 7 => tyX7 | 8 => tyX8 | 9 => tyX9 | 10 => tyX10 | _ => tyX11
theorem cl_at : ∀ ci, ci < 12 → vwCl[ci]? = some (cR ci, cT ci, cN ci)
  | 0, _ => rfl | 1, _ => rfl | 2, _ => rfl | 3, _ => rfl | 4, _ => rfl | 5, _ => rfl | 6, _ => rfl | 7, _ => rfl | 8, _ => rfl | 9, _ => rfl | 10, _ => rfl | 11, _ => rfl
  | n + 12, h => absurd h (by omega)
theorem cl_nm : ∀ ci, ci < 12 → ∀ a, a < cN ci → ∀ b, b < cN ci → a ≠ b → (cT ci a).2.1 ≠ (cT ci b).2.1
  | 0, _ => nmX0 | 1, _ => nmX1 | 2, _ => nmX2 | 3, _ => nmX3 | 4, _ => nmX4 | 5, _ => nmX5 | 6, _ => nmX6 | 7, _ => nmX7 | 8, _ => nmX8 | 9, _ => nmX9 | 10, _ => nmX10 | 11, _ => nmX11
  | n + 12, h => absurd h (by omega)
theorem cl_ty : ∀ ci, ci < 12 → ∀ k, k < cN ci → parseFieldDescriptor (cT ci k).2.2.1 = some (cTy ci k)
  | 0, _ => tyX0_ok | 1, _ => tyX1_ok | 2, _ => tyX2_ok | 3, _ => tyX3_ok | 4, _ => tyX4_ok | 5, _ => tyX5_ok | 6, _ => tyX6_ok | 7, _ => tyX7_ok | 8, _ => tyX8_ok | 9, _ => tyX9_ok | 10, _ => tyX10_ok | 11, _ => tyX11_ok
  | n + 12, h => absurd h (by omega)
/-- is the field a reference? -/
def fRef (ci k : Nat) : Bool := match cTy ci k with
  | .int => false
  | .boolean => false
  | _ => true
/-- arrays: their kind of element by tag (0 int, 1 boolean, 2 Ship, 3 Call, 4 Look, 5 Treaty, 6 Trait), their length -/
def rA : Nat → Bool
  | 0 => false | 1 => false | 6 => false | 10 => false | 13 => false | 19 => false | 21 => false | 26 => false | 33 => false | 35 => false | 39 => false | 42 => false | 47 => false
  | k => decide (k < 48)
def rK : Nat → Nat
  | 18 => 1 | 31 => 1 | 36 => 1 | _ => 0
def rL : Nat → Nat
  | 2 => 16 | 3 => 16 | 4 => 16 | 5 => 48 | 7 => 60 | 8 => 60 | 9 => 60 | 11 => 12 | 12 => 12 | 14 => 50 | 15 => 50 | 16 => 50 | 17 => 50 | 18 => 50 | 20 => 60 | 22 => 6 | 23 => 6 | 24 => 60 | 25 => 24
  | 27 => 60 | 28 => 60 | 29 => 60 | 30 => 60 | 31 => 60 | 32 => 60 | 34 => 112 | 36 => 16 | 37 => 16 | 38 => 16 | 40 => 16 | 41 => 6 | 43 => 8 | 44 => 8 | 45 => 8 | 46 => 8 | _ => 0
def aK : Nat → Nat
  | 32 => 2 | 33 => 3 | 34 => 4 | 35 => 5 | 36 => 6
  | t => if 100 ≤ t then rK (t - 100) else 0
def aL : Nat → Nat
  | 20 => 10 | 21 => 7 | 22 => 60 | 23 => 10 | 24 => 4 | 25 => 16 | 26 => 6 | 27 => 8 | 28 => 8 | 29 => 8 | 30 => 8 | 31 => 8 | 32 => 16 | 33 => 50 | 34 => 60 | 35 => 6 | 36 => 3
  | t => if 100 ≤ t then rL (t - 100) else 0
def aTy : Nat → FieldType
  | 0 => .int | 1 => .boolean | 2 => .object RX5 | 3 => .object RX1 | 4 => .object RX2 | 5 => .object RX9 | _ => .object RX8
/-- the class of the elements of a row of references -/
def aC : Nat → Nat
  | 2 => 5 | 3 => 1 | 4 => 2 | 5 => 9 | _ => 8
/-! ===== what is fixed through a run: launch, tables' numbers, array classes, the model's addresses, the static arrays, whether there is a model, the first heap ===== -/
abbrev VE : Type := Launch × va_G × (Nat → ClassId) × (Nat → Nat) × (Nat → Nat) × Bool × Heap
abbrev eL (E : VE) : Launch := E.1
abbrev eD (E : VE) : va_G := E.2.1
abbrev eA (E : VE) : Nat → ClassId := E.2.2.1
abbrev eQ (E : VE) : Nat → Nat := E.2.2.2.1
abbrev eS (E : VE) : Nat → Nat := E.2.2.2.2.1
abbrev eF (E : VE) : Bool := E.2.2.2.2.2.1
abbrev eH (E : VE) : Heap := E.2.2.2.2.2.2
def eTys (E : VE) : List (ClassId × FieldType) := [(eA E 0, .int), (eA E 1, .boolean), (eA E 2, .object RX5), (eA E 3, .object RX1), (eA E 4, .object RX2), (eA E 5, .object RX9), (eA E 6, .object RX8)]
theorem eTys_at (E : VE) : ∀ k, k < 7 → (eTys E)[k]? = some (eA E k, aTy k)
  | 0, _ => rfl | 1, _ => rfl | 2, _ => rfl | 3, _ => rfl | 4, _ => rfl | 5, _ => rfl | 6, _ => rfl
  | n + 7, h => absurd h (by omega)
def fv (σ : Sg) (t a k : Nat) : Value := if fRef (t - 1) k = true then va_rf (sR σ t a k) else .int (sI σ t a k)
def cOK (E : VE) (σ : Sg) (a t : Nat) (H : Heap) : Prop :=
  if t < 13 then t_OB a ((eD E).1 (t - 1)) (cN (t - 1)) ((eD E).2 (t - 1)) H (fv σ t a)
  else if aK t < 2 then H[a]? = some (vp_cell (eA E (aK t)) (aL t, .inl (sI σ t a)))
  else H[a]? = some (vp_cell (eA E (aK t)) (aL t, .inr (.inr (.inr (.inr (sR σ t a))))))
def rU (k : Nat) : Prop := k = 48 ∨ rA k = true
def rV (q : Nat → Nat) (G : Nat → Nat → Int32) (k : Nat) : Value := if rA k = true then .ref (q k) else .int (G k 0)
def RefAt (E : VE) (G : Nat → Nat → Int32) (H : Heap) : Prop :=
  (∀ k, rU k → (eH E).size ≤ eQ E k) ∧ (∀ j k, rU j → rU k → eQ E j = eQ E k → j = k) ∧ t_OB (eQ E 48) ((eD E).1 11) 48 ((eD E).2 11) H (rV (eQ E) G) ∧ ∀ k, rA k = true → H[eQ E k]? = some (vp_cell (eA E (rK k)) (rL k, .inl (G k)))
def AH (E : VE) (σ : Sg) (H : Heap) : Prop :=
  H.size = sN σ ∧ (eH E).size ≤ sN σ ∧ (∀ a, a < (eH E).size → H[a]? = (eH E)[a]?) ∧ (∀ a, sT σ a ≠ 0 → (eH E).size ≤ a ∧ cOK E σ a (sT σ a) H) ∧ (eF E = true → RefAt E (sG σ) H ∧ ∀ k, rU k → sT σ (eQ E k) = 0)
/-! ===== what the tables say, kept through a run ===== -/
def NW : List Cond := lw_tbl.filter (fun w => match w with | .methodLinkNest .. => true | _ => false)
def above : Nat → Int32
  | 0 => -1 | 1 => 0 | 2 => 1 | _ => 0
def lookHours : Nat → Int32
  | 0 => 3 | 1 => 5 | 2 => 7 | _ => 4
def KK (E : VE) (U : State) : Prop :=
  va_K (eD E) vwCl (eTys E) U ∧ (∀ w ∈ NW, va_Nw w U) ∧ (∀ k, 2 ≤ k → k < 7 → va_AO (cR (aC k)) U) ∧
  (va_Z RX10 "ABOVE" "[I" (.ref (eS E 0)) (fun a => (eH E).size ≤ a) U (eH E) ∧ va_T .int (eS E 0) 4 (fun j => .int (above j)) (fun a => (eH E).size ≤ a) U (eH E)) ∧
  (va_Z RX10 "LOOK_HOURS" "[I" (.ref (eS E 1)) (fun a => (eH E).size ≤ a) U (eH E) ∧ va_T .int (eS E 1) 4 (fun j => .int (lookHours j)) (fun a => (eH E).size ≤ a) U (eH E))
theorem NW_is {w : Cond} (h : w ∈ NW) : ∃ a i x b, w = .methodLinkNest a i x b := by
  have h2 := (List.mem_filter.mp h).2
  cases w <;> first | exact ⟨_, _, _, _, rfl⟩ | cases h2
theorem KK.warm {E : VE} {s U : State} (hW : s.WarmedH U.vm) (h : KK E s) : KK E U := by
  obtain ⟨h1, h2, h3, ⟨h4, h5⟩, h6, h7⟩ := h
  refine ⟨h1.moved hW.alike, fun w hw => ?_, fun k a b => (h3 k a b).moved hW.alike, ⟨h4.moved hW.alike, h5.moved hW.alike⟩, h6.moved hW.alike, h7.moved hW.alike⟩
  obtain ⟨a, i, x, b, rfl⟩ := NW_is hw
  exact va_Nw.warmM hW (h2 _ hw)
theorem KK.same {E : VE} {u U : State} (hv : u.vm = U.vm) (h : KK E u) : KK E U := by
  obtain ⟨h1, h2, h3, ⟨h4, h5⟩, h6, h7⟩ := h
  have hA : u.vm.Alike U.vm := hv ▸ Vm.Alike.refl _
  refine ⟨h1.moved hA, fun w hw => ?_, fun k a b => (h3 k a b).moved hA, ⟨h4.moved hA, h5.moved hA⟩, h6.moved hA, h7.moved hA⟩
  obtain ⟨a, i, x, b, rfl⟩ := NW_is hw
  exact va_Nw.same rfl hv (h2 _ hw)
/-! ===== locals ===== -/
def lget : List (Option Value) → Nat → Option Value
  | [], _ => none
  | x :: _, 0 => x
  | _ :: l, n + 1 => lget l n
def LV (arr : Array Slot) (nL : Nat) (ls : List (Option Value)) : Prop := arr.size = nL ∧ lv_wf arr ∧ ∀ i v, lget ls i = some v → arr[i]? = some (.val v) ∧ v.category = 1
def lset : List (Option Value) → Nat → Value → List (Option Value)
  | [], _, _ => []
  | _ :: l, 0, v => some v :: l
  | x :: l, n + 1, v => x :: lset l n v
theorem lget_lset : ∀ (ls : List (Option Value)) (i j : Nat) (v w : Value), lget (lset ls i v) j = some w → (j = i ∧ w = v) ∨ (j ≠ i ∧ lget ls j = some w)
  | [], i, j, v, w, h => by cases h
  | x :: l, 0, 0, v, w, h => Or.inl ⟨rfl, by cases h; rfl⟩
  | x :: l, 0, j + 1, v, w, h => Or.inr ⟨by omega, h⟩
  | x :: l, i + 1, 0, v, w, h => Or.inr ⟨by omega, h⟩
  | x :: l, i + 1, j + 1, v, w, h => by
    rcases lget_lset l i j v w h with ⟨h1, h2⟩ | ⟨h1, h2⟩
    · exact Or.inl ⟨by omega, h2⟩
    · exact Or.inr ⟨by omega, h2⟩
theorem lget_lt : ∀ (ls : List (Option Value)) (i : Nat) (w : Value), lget ls i = some w → i < ls.length
  | [], i, w, h => by cases h
  | x :: l, 0, w, h => by simp
  | x :: l, i + 1, w, h => by have := lget_lt l i w h; simp; omega
theorem LV.store {arr : Array Slot} {nL : Nat} {ls : List (Option Value)} {i : Nat} {v : Value} (h : LV arr nL ls) (hi : i < nL) (hc : v.category = 1) : ∃ arr', storeLocals arr i v = some arr' ∧ LV arr' nL (lset ls i v) := by
  obtain ⟨h1, h2, h3⟩ := h
  let l : List (Nat × Value) := (List.range ls.length).filterMap (fun j => (lget ls j).map (fun w => (j, w)))
  have hm : ∀ j w, lget ls j = some w → (j, w) ∈ l := fun j w hj => List.mem_filterMap.mpr ⟨j, List.mem_range.mpr (lget_lt ls j w hj), by rw [hj]; rfl⟩
  have hl : ∀ q ∈ l, arr[q.1]? = some (.val q.2) ∧ q.2.category = 1 := by
    intro q hq
    obtain ⟨j, -, hj⟩ := List.mem_filterMap.mp hq
    cases hg : lget ls j with
    | none => rw [hg] at hj; cases hj
    | some w => rw [hg] at hj; cases hj; exact h3 j w hg
  obtain ⟨arr', e1, e2⟩ := lv_store1 (l := l) (v := v) ⟨h1, h2, fun q hq => (hl q hq).1⟩ hi hc
  refine ⟨arr', e1, e2.1, e2.2.1, fun j w hj => ?_⟩
  rcases lget_lset ls i j v w hj with ⟨rfl, rfl⟩ | ⟨hne, hg⟩
  · exact ⟨e2.2.2 (j, w) List.mem_cons_self, hc⟩
  · have hq := hm j w hg
    have hcat := (hl _ hq).2
    refine ⟨e2.2.2 (j, w) (List.mem_cons_of_mem _ (List.mem_filter.mpr ⟨hq, ?_⟩)), hcat⟩
    have hc2 : (w.category == 2) = false := by
      have : w.category = 1 := hcat
      rw [this]; rfl
    simp [hne, hc2]
