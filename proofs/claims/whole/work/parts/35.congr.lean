/-! ===== what depends on the rows below 42 alone ===== -/
def eqL (G' G : GS) : Prop := ∀ r, r < 42 → G' r = G r
theorem nSh_c {G' G : GS} (e : eqL G' G) : nSh G' = nSh G := by unfold nSh gN; rw [e 1 (by decide)]
theorem nCh_c {G' G : GS} (e : eqL G' G) : nCh G' = nCh G := by unfold nCh gN; rw [e 6 (by decide)]
theorem nWd_c {G' G : GS} (e : eqL G' G) : nWd G' = nWd G := by unfold nWd gN; rw [e 10 (by decide)]
theorem nCa_c {G' G : GS} (e : eqL G' G) : nCa G' = nCa G := by unfold nCa gN; rw [e 13 (by decide)]
theorem nLk_c {G' G : GS} (e : eqL G' G) : nLk G' = nLk G := by unfold nLk gN; rw [e 26 (by decide)]
theorem hadK_c {G' G : GS} (e : eqL G' G) (i w : Nat) (on : Int32) : ∀ c, hadK G' i w on c = hadK G i w on c
  | 0 => by unfold hadK; rw [e 5 (by decide)]
  | c + 1 => by unfold hadK; rw [e 7 (by decide), e 8 (by decide), e 9 (by decide), hadK_c e i w on c]
theorem hadOn_c {G' G : GS} (e : eqL G' G) (i w : Nat) (on : Int32) : hadOn G' i w on = hadOn G i w on := by unfold hadOn; rw [nCh_c e, hadK_c e]
theorem onesRow_c {G' G : GS} (e : eqL G' G) (s : Nat) : ∀ w, onesRow G' w s = onesRow G w s
  | 0 => rfl
  | w + 1 => by unfold onesRow gN; rw [e 11 (by decide), e 12 (by decide), onesRow_c e s w]
theorem onesIt_c {G' G : GS} (e : eqL G' G) (s : Nat) : ∀ k, onesIt G' k s = onesIt G k s
  | 0 => rfl
  | k + 1 => by unfold onesIt; rw [nWd_c e, onesRow_c e, onesIt_c e s k]
theorem onesN_c {G' G : GS} (e : eqL G' G) (o : Nat) : onesN G' o = onesN G o := onesIt_c e _ _
theorem isOne_c {G' G : GS} (e : eqL G' G) (o : Nat) (on : Int32) : isOne G' o on = isOne G o on := by funext i; unfold isOne; rw [onesN_c e, hadOn_c e]
theorem fleetN_c {G' G : GS} (e : eqL G' G) (o : Nat) (on : Int32) : fleetN G' o on = fleetN G o on := by unfold fleetN; rw [isOne_c e, nSh_c e]
theorem shipOf_c {G' G : GS} (e : eqL G' G) (l : Nat) : shipOf G' l = shipOf G l := by unfold shipOf gN; rw [e 14 (by decide), e 27 (by decide)]
theorem inLast_c {G' G : GS} (e : eqL G' G) (n : Int) (l : Nat) : inLast G' n l = inLast G n l := by unfold inLast; rw [e 0 (by decide), e 29 (by decide)]
theorem isOf_c {G' G : GS} (e : eqL G' G) (o : Nat) (k : Int32) (l : Nat) : isOf G' o k l = isOf G o k l := by unfold isOf; rw [shipOf_c e, hadOn_c e, e 29 (by decide), e 3 (by decide)]
theorem counted_c {G' G : GS} (e : eqL G' G) (o : Nat) (k : Int32) (hs : Bool) : counted G' o k hs = counted G o k hs := by
  unfold counted
  rw [nLk_c e]
  exact fb_ct_cong (fun l _ => by unfold cntB; rw [isOf_c e, inLast_c e, e 31 (by decide)])
theorem darkB_c {G' G : GS} (e : eqL G' G) (o : Nat) (k : Int32) : darkB G' o k = darkB G o k := by unfold darkB; rw [counted_c e, counted_c e, counted_c e, counted_c e]
theorem latK_c {G' G : GS} (e : eqL G' G) (i : Nat) : ∀ l, latK G' i l = latK G i l
  | 0 => by unfold latK; rw [e 4 (by decide)]
  | l + 1 => by unfold latK; rw [shipOf_c e, e 29 (by decide), latK_c e i l]
theorem fltOf_c {G' G : GS} (e : eqL G' G) (i : Nat) : fltOf G' i = fltOf G i := by unfold fltOf; rw [e 0 (by decide), hadOn_c e, fleetN_c e]
theorem holdsF_c {G' G : GS} (e : eqL G' G) (i : Nat) : holdsF G' i = holdsF G i := by
  unfold holdsF
  rw [nLk_c e]
  exact fb_ct_cong (fun l _ => by unfold hfB; rw [shipOf_c e, e 31 (by decide), fltOf_c e, inLast_c e])
theorem yearsOf_c {G' G : GS} (e : eqL G' G) (i : Nat) : yearsOf G' i = yearsOf G i := by unfold yearsOf; rw [e 0 (by decide), nLk_c e, latK_c e]
theorem riskN_c {G' G : GS} (e : eqL G' G) (i : Nat) : riskN G' i = riskN G i := by
  unfold riskN riskB
  rw [e 0 (by decide), e 2 (by decide), e 3 (by decide), e 4 (by decide), hadOn_c e, darkB_c e, darkB_c e, holdsF_c e, yearsOf_c e]
theorem openK_c {G' G : GS} (e : eqL G' G) (s : Int32) : ∀ n, openK G' s n = openK G s n
  | 0 => rfl
  | n + 1 => by unfold openK; rw [e 14 (by decide), e 17 (by decide), openK_c e s n]
theorem openOf_c {G' G : GS} (e : eqL G' G) (s : Int32) : openOf G' s = openOf G s := by unfold openOf; rw [nCa_c e, openK_c e]
theorem Inv.eqL {G' G : GS} (h : Inv G) (e : eqL G' G) : Inv G' :=
  h.rows (fun r hr => e r (by have := tRow_ne hr; omega)) (by have := h.tpN; unfold nTp gN at *; rw [e 19 (by decide)]; exact this) (by have := h.trN; unfold nTr gN at *; rw [e 21 (by decide)]; exact this)
theorem hoursN_ok {G : GS} {i : Nat} (h : G 2 i = nI (gN G 2 i) ∧ gN G 2 i < 4) : hours (G 2 i) = nI (hoursN G i) ∧ hoursN G i ≤ 7 := by
  unfold hours hoursN
  rw [h.1]
  have h4 := h.2
  generalize gN G 2 i = k at *
  rcases (show k = 0 ∨ k = 1 ∨ k = 2 ∨ k = 3 by omega) with rfl | rfl | rfl | rfl <;> decide
theorem riskN_le {G : GS} {i : Nat} : riskN G i ≤ 1000 := by
  unfold riskN riskB
  have h1 : min 4 (holdsF G i) ≤ 4 := Nat.min_le_left _ _
  have h2 : min 5 (yearsOf G i) ≤ 5 := Nat.min_le_left _ _
  generalize min 4 (holdsF G i) = a at *
  generalize min 5 (yearsOf G i) = b at *
  repeat' split
  all_goals omega
theorem atPort_le (G : GS) (port : Int32) : ∀ s, (atPort G port s).length ≤ 8 ∧ (∀ k, k < (atPort G port s).length → (atPort G port s).getD k 0 < s)
  | 0 => ⟨Nat.zero_le _, fun k h => by simp [atPort] at h⟩
  | s + 1 => by
    have ih := atPort_le G port s
    unfold atPort
    split
    · rename_i q
      refine ⟨by simp; omega, fun k hk => ?_⟩
      simp at hk
      by_cases e : k < (atPort G port s).length
      · have := ih.2 k e
        simp only [List.getD_eq_getElem?_getD] at *
        rw [List.getElem?_append_left e]
        omega
      · have : k = (atPort G port s).length := by omega
        subst this
        simp
    · exact ⟨ih.1, fun k hk => by have := ih.2 k hk; omega⟩
theorem getD_app_lt {l : List Nat} {x k : Nat} (h : k < l.length) : (l ++ [x]).getD k 0 = l.getD k 0 := by
  simp only [List.getD_eq_getElem?_getD]
  rw [List.getElem?_append_left h]
theorem getD_app_last {l : List Nat} {x : Nat} : (l ++ [x]).getD l.length 0 = x := by simp
/-- where the port is full nothing comes -/
theorem atPort_full (G : GS) (port : Int32) (s : Nat) (h : 8 ≤ (atPort G port s).length) : ∀ m, atPort G port (s + m) = atPort G port s
  | 0 => rfl
  | m + 1 => by
    have ih := atPort_full G port s h m
    show (if (atPort G port (s + m)).length < 8 ∧ inPort G port (s + m) then atPort G port (s + m) ++ [s + m] else atPort G port (s + m)) = _
    rw [ih, if_neg (by omega)]

