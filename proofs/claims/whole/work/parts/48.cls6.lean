/-! ===== owners that are one ===== -/
theorem grp_lt {G : GS} (hI : Inv G) : ∀ n, n ≤ nWd G → ∀ a, a < 10 → grp G n a < 10
  | 0, _, a, ha => ha
  | n + 1, hn, a, ha => by
    have ih := grp_lt hI n (by omega)
    have hw := hI.wd n (by omega)
    unfold grp
    split
    · exact ih _ hw.1.2
    · exact ih _ ha
theorem grp_word {G : GS} : ∀ n w, w < n → grp G n (gN G 11 w) = grp G n (gN G 12 w)
  | 0, w, h => absurd h (Nat.not_lt_zero w)
  | n + 1, w, h => by
    by_cases q : w = n
    · subst q
      unfold grp
      rw [if_pos rfl]
      split <;> rfl
    · have ih := grp_word (G := G) n w (by omega)
      unfold grp
      rw [ih]
/-- a set that holds both or none of each of the first n words -/
def clsd (G : GS) (n : Nat) (S : Nat → Bool) : Prop := ∀ w, w < n → S (gN G 11 w) = S (gN G 12 w)
theorem clsd_grp {G : GS} {S : Nat → Bool} : ∀ n, clsd G n S → ∀ b c, grp G n b = grp G n c → S b = S c
  | 0, _, b, c, h => by rw [show b = c from h]
  | n + 1, hS, b, c, h => by
    have ih := clsd_grp n (fun w hw => hS w (by omega))
    have hw := hS n (by omega)
    unfold grp at h
    by_cases qb : grp G n b = grp G n (gN G 12 n)
    · rw [if_pos qb] at h
      by_cases qc : grp G n c = grp G n (gN G 12 n)
      · exact ih b c (qb.trans qc.symm)
      · rw [if_neg qc] at h
        exact (ih _ _ qb).trans (hw.symm.trans (ih _ _ h))
    · rw [if_neg qb] at h
      by_cases qc : grp G n c = grp G n (gN G 12 n)
      · rw [if_pos qc] at h
        exact (ih _ _ h).trans (hw.trans (ih _ _ qc).symm)
      · rw [if_neg qc] at h
        exact ih _ _ h
theorem step_ext (a b s k : Nat) (h : s.testBit k = true) : (onesStep a b s).testBit k = true := by
  unfold onesStep
  split
  · exact h
  · rw [Nat.testBit_or, h]; rfl
theorem row_ext (G : GS) (k : Nat) : ∀ w s, s.testBit k = true → (onesRow G w s).testBit k = true
  | 0, s, h => h
  | w + 1, s, h => step_ext _ _ _ _ (row_ext G k w s h)
theorem sub_eq {s t : Nat} (h1 : ∀ k, s.testBit k = true → t.testBit k = true) (h2 : ∀ k, t.testBit k = true → s.testBit k = true) : s = t := by
  apply Nat.eq_of_testBit_eq
  intro i
  cases hs : s.testBit i <;> cases ht : t.testBit i <;> first | rfl | exact absurd (h1 i hs) (by rw [ht]; decide) | exact absurd (h2 i ht) (by rw [hs]; decide)
/-- a set that a row of steps leaves, each of its steps leaves -/
theorem row_fix (G : GS) : ∀ w s, onesRow G w s = s → ∀ v, v < w → onesStep (gN G 11 v) (gN G 12 v) s = s
  | 0, s, _, v, h => absurd h (Nat.not_lt_zero v)
  | w + 1, s, e, v, h => by
    have e1 : onesRow G w s = s := by
      refine sub_eq (fun k hk => ?_) (fun k hk => row_ext G k w s hk)
      rw [← e]
      exact step_ext _ _ _ _ hk
    by_cases q : v = w
    · subst q
      have e2 : onesStep (gN G 11 v) (gN G 12 v) (onesRow G v s) = s := e
      rw [e1] at e2
      exact e2
    · exact row_fix G w s e1 v (by omega)
theorem step_fix {a b s : Nat} (h : onesStep a b s = s) : s.testBit a = s.testBit b := by
  unfold onesStep at h
  by_cases q : s &&& (2 ^ a ||| 2 ^ b) = 0
  · have ha : (s &&& (2 ^ a ||| 2 ^ b)).testBit a = false := by rw [q]; simp
    have hb : (s &&& (2 ^ a ||| 2 ^ b)).testBit b = false := by rw [q]; simp
    rw [Nat.testBit_and, Nat.testBit_or, Nat.testBit_two_pow_self] at ha
    rw [Nat.testBit_and, Nat.testBit_or, Nat.testBit_two_pow_self] at hb
    simp at ha hb
    rw [ha, hb]
  · rw [if_neg q] at h
    have ha : s.testBit a = true := by rw [← h, Nat.testBit_or, Nat.testBit_or, Nat.testBit_two_pow_self]; simp
    have hb : s.testBit b = true := by rw [← h, Nat.testBit_or, Nat.testBit_or, Nat.testBit_two_pow_self]; simp
    rw [ha, hb]
theorem bits_grow {s t : Nat} (ht : t < 1024) (h : ∀ k, s.testBit k = true → t.testBit k = true) (hne : s ≠ t) : cnt10 s + 1 ≤ cnt10 t := by
  have ⟨j, hj⟩ : ∃ j, ¬ (t.testBit j = true → s.testBit j = true) := by
    refine Classical.byContradiction fun z => hne (sub_eq h (fun k hk => ?_))
    exact Classical.byContradiction fun y => z ⟨k, fun f => y (f hk)⟩
  have h1 : t.testBit j = true := Classical.byContradiction fun z => hj (fun y => absurd y z)
  have h2 : s.testBit j = false := by
    cases hs : s.testBit j
    · rfl
    · exact absurd (fun _ => hs) hj
  have hj10 : j < 10 := by
    refine Classical.byContradiction fun z => ?_
    have : t.testBit j = false := Nat.testBit_lt_two_pow (Nat.lt_of_lt_of_le ht (show 2 ^ 10 ≤ 2 ^ j from Nat.pow_le_pow_right (by decide) (by omega)))
    rw [this] at h1
    cases h1
  have e := fb_ct_upd (fun k => s.testBit k) true hj10
  have l := fb_ct_sub (n := 10) (p := fun k => if k = j then true else s.testBit k) (q := fun k => t.testBit k) (fun k _ hk => by
    by_cases q : k = j
    · rw [q]; exact h1
    · simp only [if_neg q] at hk; exact h k hk)
  have e2 : (if s.testBit j = true then 1 else 0) = 0 := if_neg (by rw [h2]; decide)
  rw [e2, if_pos rfl] at e
  unfold cnt10
  omega
theorem onesIt_fix {G : GS} (hI : Inv G) {s : Nat} (hs : s < 1024) (hp : 1 ≤ cnt10 s) : onesRow G (nWd G) (onesIt G 10 s) = onesIt G 10 s := by
  have key : ∀ k, onesRow G (nWd G) (onesIt G k s) = onesIt G k s ∨ k + 1 ≤ cnt10 (onesIt G k s) := by
    intro k
    induction k with
    | zero => exact Or.inr hp
    | succ k ih =>
      by_cases q : onesRow G (nWd G) (onesIt G k s) = onesIt G k s
      · left
        show onesRow G (nWd G) (onesRow G (nWd G) (onesIt G k s)) = onesRow G (nWd G) (onesIt G k s)
        rw [q, q]
      · right
        have l := onesIt_lt hI hs (k + 1)
        have g := bits_grow l (fun j hj => row_ext G j (nWd G) _ hj) (fun e => q e.symm)
        have : k + 1 ≤ cnt10 (onesIt G k s) := ih.resolve_left q
        omega
  rcases key 10 with h | h
  · exact h
  · have := cnt10_le (onesIt G 10 s)
    omega
set_option maxRecDepth 10000 in
theorem pow_cnt : ∀ o, o < 10 → 2 ^ o < 1024 ∧ cnt10 (2 ^ o) = 1 := by decide
theorem onesIt_ext (G : GS) (k : Nat) : ∀ n s, s.testBit k = true → (onesIt G n s).testBit k = true
  | 0, s, h => h
  | n + 1, s, h => row_ext G k _ _ (onesIt_ext G k n s h)
theorem ones_grp {G : GS} (hI : Inv G) {a b : Nat} (ha : a < 10) : (onesN G a).testBit b = true ↔ grp G (nWd G) a = grp G (nWd G) b := by
  have hp := pow_cnt a ha
  have fx := onesIt_fix hI hp.1 (by omega)
  constructor
  · have stp : ∀ w s, w ≤ nWd G → (∀ k, s.testBit k = true → grp G (nWd G) a = grp G (nWd G) k) → ∀ k, (onesRow G w s).testBit k = true → grp G (nWd G) a = grp G (nWd G) k := by
      intro w
      induction w with
      | zero => exact fun s _ h => h
      | succ w ih =>
        intro s hw h k hk
        have hi := ih s (by omega) h
        have hg := grp_word (G := G) (nWd G) w (by omega)
        change (onesStep _ _ (onesRow G w s)).testBit k = true at hk
        unfold onesStep at hk
        by_cases q : onesRow G w s &&& (2 ^ gN G 11 w ||| 2 ^ gN G 12 w) = 0
        · rw [if_pos q] at hk
          exact hi k hk
        · rw [if_neg q] at hk
          have hm : grp G (nWd G) a = grp G (nWd G) (gN G 11 w) := by
            have ⟨j, hj⟩ := Nat.exists_testBit_of_ne_zero q
            rw [Nat.testBit_and, Nat.testBit_or, Nat.testBit_two_pow, Nat.testBit_two_pow] at hj
            simp at hj
            rcases hj.2 with e | e
            · rw [e]; exact hi j hj.1
            · rw [hg, e]; exact hi j hj.1
          rw [Nat.testBit_or, Nat.testBit_or, Nat.testBit_two_pow, Nat.testBit_two_pow] at hk
          simp at hk
          rcases hk with e | e | e
          · exact hi k e
          · rw [← e]; exact hm
          · rw [← e, ← hg]; exact hm
    have it : ∀ n k, (onesIt G n (2 ^ a)).testBit k = true → grp G (nWd G) a = grp G (nWd G) k := by
      intro n
      induction n with
      | zero =>
        intro k hk
        change (2 ^ a).testBit k = true at hk
        rw [Nat.testBit_two_pow] at hk
        rw [of_decide_eq_true hk]
      | succ n ih => exact stp (nWd G) _ (Nat.le_refl _) ih
    exact it 10 b
  · intro h
    have cl : clsd G (nWd G) (fun k => (onesN G a).testBit k) := fun w hw => step_fix (row_fix G _ _ fx w hw)
    have e := clsd_grp _ cl a b h
    have h0 : (onesN G a).testBit a = true := onesIt_ext G a 10 _ Nat.testBit_two_pow_self
    exact e.symm.trans h0
section CLS6
variable {E : VE} {σ : Sg} {G : GS} {x : Nat} {P : PT} {post : Option Value → Sg → Prop}
set_option maxRecDepth 100000 in
theorem k_areOne (hR : Rp σ x P G) (hI : Inv G) (a b : Nat) (ha : a < 10) (hb : b < 10) (hp : post (some (.int (b2 ((onesN G a).testBit b = true)))) σ) : MX3_areOne E 1 0 0 [.ref (P 0 1), .int (nI a), .int (nI b)] σ post := by
  refine MA.of RX3 "areOne" [some (.ref (P 0 1)), some (.int (nI a)), some (.int (nI b))] rfl rfl rfl (catAll rfl) (Nat.le_of_ble_eq_true rfl) rfl (fun X => ?_)
  have la := grp_lt hI _ (Nat.le_refl _) a ha
  have lb := grp_lt hI _ (Nat.le_refl _) b hb
  refine V.aload_n (i := 0) dX3_areOne_0 rfl rfl ?_
  refine V.getS dX3_areOne_1 fl_X3_9 rfl hR.F.owners.2 hR.F.group.1 ?_
  refine V.iload_n (i := 1) dX3_areOne_4 rfl rfl ?_
  refine V.iald (t := 20) dX3_areOne_5 hR.F.group.2 (by decide) rfl rfl (show _ < 10 from ha) (by decide) ?_
  refine V.as _ (hR.O a ha) ?_
  refine V.aload_n (i := 0) dX3_areOne_6 rfl rfl ?_
  refine V.getS dX3_areOne_7 fl_X3_9 rfl hR.F.owners.2 hR.F.group.1 ?_
  refine V.iload_n (i := 2) dX3_areOne_10 rfl rfl ?_
  refine V.iald (t := 20) dX3_areOne_11 hR.F.group.2 (by decide) rfl rfl (show _ < 10 from hb) (by decide) ?_
  refine V.as _ (hR.O b hb) ?_
  refine V.icmp_ne (tgt := 19) dX3_areOne_12 rfl (fun c12 => ?_) (fun c12 => ?_)
  · rw [nI_eq (by omega) (by omega)] at c12
    refine V.iconst dX3_areOne_19 ic_0 ?_
    refine V.zret dX3_areOne_20 (by decide) (Nat.le_of_ble_eq_true rfl) (Nat.le_of_ble_eq_true rfl) ?_
    first | exact b2_ret1 ((ones_grp hI ha).mpr (by simpa using c12)) hp | exact b2_ret0 (fun z => absurd ((ones_grp hI ha).mp z) c12) hp
  · rw [nI_eq (by omega) (by omega)] at c12
    refine V.iconst dX3_areOne_15 ic_1 ?_
    refine V.goto (tgt := 20) dX3_areOne_16 rfl ?_
    refine V.zret dX3_areOne_20 (by decide) (Nat.le_of_ble_eq_true rfl) (Nat.le_of_ble_eq_true rfl) ?_
    first | exact b2_ret1 ((ones_grp hI ha).mpr (by simpa using c12)) hp | exact b2_ret0 (fun z => absurd ((ones_grp hI ha).mp z) c12) hp
set_option maxRecDepth 100000 in
theorem k_fleetBits (hR : Rp σ x P G) (hI : Inv G) (o : Nat) (on : Int32) (ho : o < 10) (hp : post (some (.int (nI (fleetN G o on)))) σ) : MX10_fleetBits E 2 0 0 [.ref x, .int (nI o), .int on] σ post := by
  refine MA.of RX10 "fleetBits" [some (.ref x), some (.int (nI o)), some (.int on), none, none] rfl rfl rfl (catAll rfl) (Nat.le_of_ble_eq_true rfl) rfl (fun X => ?_)
  have h16 := hI.shN
  have loop : ∀ m k, m + k = nSh G → V E X RX10 "fleetBits" cX10_fleetBits 5 (some .int) 2 0 0 (QM E X post 0 0) σ 0 0 5 [some (.ref x), some (.int (nI o)), some (.int on), some (.int (nI (flb (isOne G o on) k))), some (.int (nI k))] [] := by
    intro m
    induction m with
    | zero =>
      intro k hk
      refine V.iload (i := 4) dX10_fleetBits_5 rfl ?_
      refine V.aload_n (i := 0) dX10_fleetBits_7 rfl rfl ?_
      refine V.geti dX10_fleetBits_8 fl_X10_86 rfl hR.F.x ?_
      refine V.icmp_geT (tgt := 50) dX10_fleetBits_11 rfl (lpT (hR.S.shipN.trans h16.1) (by omega) (by omega)) ?_
      refine V.iload_n (i := 3) dX10_fleetBits_50 rfl rfl ?_
      refine V.iret dX10_fleetBits_51 (Nat.le_of_ble_eq_true rfl) (Nat.le_of_ble_eq_true rfl) ?_
      rw [show k = nSh G by omega]; exact hp
    | succ m ih =>
      intro k hk
      have hh : hadOn G k 2 on = nI (tn (hadOn G k 2 on)) ∧ tn (hadOn G k 2 on) < 10 := hadO hI (by omega) on _ (Nat.le_refl _)
      refine V.iload (i := 4) dX10_fleetBits_5 rfl ?_
      refine V.aload_n (i := 0) dX10_fleetBits_7 rfl rfl ?_
      refine V.geti dX10_fleetBits_8 fl_X10_86 rfl hR.F.x ?_
      refine V.icmp_geF (tgt := 50) dX10_fleetBits_11 rfl (lpF (hR.S.shipN.trans h16.1) (by omega) (by omega)) ?_
      refine V.aload_n (i := 0) dX10_fleetBits_14 rfl rfl ?_
      refine V.getS dX10_fleetBits_15 fl_X10_18 rfl hR.F.x hR.F.owners.1 ?_
      refine V.iload_n (i := 1) dX10_fleetBits_18 rfl rfl ?_
      refine V.aload_n (i := 0) dX10_fleetBits_19 rfl rfl ?_
      refine V.getS dX10_fleetBits_20 fl_X10_11 rfl hR.F.x hR.F.ships.1 ?_
      refine V.iload (i := 4) dX10_fleetBits_23 rfl ?_
      refine V.aaldS (t := 32) dX10_fleetBits_25 hR.F.ships.2 (by decide) (by decide) rfl (show _ < 16 from (by omega)) (by decide) (hR.H.at k (by omega)).1 ?_
      refine V.iconst dX10_fleetBits_26 ic_2 ?_
      refine V.iload_n (i := 2) dX10_fleetBits_27 rfl rfl ?_
      refine V.cv2D (ci := 5) dX10_fleetBits_28 lk_X10_115 (by decide) rfl (hR.H.at k (by omega)).2 (k_traitOn hR k 2 on (by omega) (by decide) ⟨rfl, rfl⟩) (by decide) (by decide) (Nat.le_of_ble_eq_true rfl) (Nat.le_of_ble_eq_true rfl) (Nat.le_of_ble_eq_true rfl) ?_
      refine V.as _ hh.1 ?_
      refine V.cv2D (ci := 3) dX10_fleetBits_31 lk_X10_338 (by decide) rfl hR.F.owners.2 (k_areOne hR hI o _ ho hh.2 ⟨rfl, rfl⟩) (by decide) (by decide) (Nat.le_of_ble_eq_true rfl) (Nat.le_of_ble_eq_true rfl) (Nat.le_of_ble_eq_true rfl) ?_
      refine V.ifb_eq (tgt := 44) dX10_fleetBits_34 rfl (fun c34 => ?_) (fun c34 => ?_)
      · rw [show flb (isOne G o on) k = flb (isOne G o on) (k + 1) by rw [flb, if_neg (show ¬ isOne G o on k = true from c34)]; rfl]
        refine V.iinc4 (by decide) dX10_fleetBits_44 (inc1 _) ?_
        refine V.goto (tgt := 5) dX10_fleetBits_47 rfl ?_
        exact ih (k + 1) (by omega)
      · refine V.iload_n (i := 3) dX10_fleetBits_37 rfl rfl ?_
        refine V.iconst dX10_fleetBits_38 ic_1 ?_
        refine V.iload (i := 4) dX10_fleetBits_39 rfl ?_
        refine V.ishl dX10_fleetBits_41 ?_
        refine V.as _ (sh1 (by omega)) ?_
        refine V.ior dX10_fleetBits_42 ?_
        refine V.as (nI (flb (isOne G o on) (k + 1))) (by rw [show 2 ^ k = 1 * 2 ^ k by omega, orBit 1 (flb_lt _ k), flb, if_pos (show isOne G o on k = true from c34), Nat.one_mul]) ?_
        refine V.istore_n3 (by decide) dX10_fleetBits_43 ?_
        refine V.iinc4 (by decide) dX10_fleetBits_44 (inc1 _) ?_
        refine V.goto (tgt := 5) dX10_fleetBits_47 rfl ?_
        exact ih (k + 1) (by omega)
  refine V.iconst dX10_fleetBits_0 ic_0 ?_
  refine V.istore_n3 (by decide) dX10_fleetBits_1 ?_
  refine V.iconst dX10_fleetBits_2 ic_0 ?_
  refine V.istore4 (by decide) dX10_fleetBits_3 ?_
  exact loop (nSh G) 0 rfl
set_option maxRecDepth 100000 in
theorem k_fleet (hR : Rp σ x P G) (hI : Inv G) (o on : Int32) (hp : PU x σ (s_fleet G o on) post) : MX10_fleet E 3 0 0 [.ref x, .int o, .int on] σ post := by
  refine MA.of RX10 "fleet" [some (.ref x), some (.int o), some (.int on)] rfl rfl rfl (catAll rfl) (Nat.le_of_ble_eq_true rfl) rfl (fun X => ?_)
  refine V.iload_n (i := 1) dX10_fleet_0 rfl rfl ?_
  refine V.bipush dX10_fleet_1 bc_10 ?_
  refine V.cs2D dX10_fleet_3 lk_X10_96 (k_isBelowN _ 10 (by decide) ⟨rfl, rfl⟩) (by decide) (by decide) (Nat.le_of_ble_eq_true rfl) (Nat.le_of_ble_eq_true rfl) (Nat.le_of_ble_eq_true rfl) ?_
  refine V.ifb_eq (tgt := 19) dX10_fleet_6 rfl (fun c6 => ?_) (fun c6 => ?_)
  · refine V.aload_n (i := 0) dX10_fleet_19 rfl rfl ?_
    refine V.iconst dX10_fleet_20 ic_1 ?_
    refine V.cv1D (ci := 10) dX10_fleet_21 lk_X10_82 (by decide) rfl hR.F.x (k_finding hR _ (by decide) ⟨rfl, rfl⟩) (by decide) (by decide) (Nat.le_of_ble_eq_true rfl) (Nat.le_of_ble_eq_true rfl) (Nat.le_of_ble_eq_true rfl) ?_
    refine V.iret dX10_fleet_24 (Nat.le_of_ble_eq_true rfl) (Nat.le_of_ble_eq_true rfl) ?_
    exact puF hp (if_neg (by omega)) hR rfl
  · obtain ⟨j, hj, rfl⟩ := idxOf c6
    refine V.iload_n (i := 2) dX10_fleet_9 rfl rfl ?_
    refine V.sipush dX10_fleet_10 sc_10000 ?_
    refine V.cs2D dX10_fleet_13 lk_X10_96 (k_isBelowN _ 10000 (by decide) ⟨rfl, rfl⟩) (by decide) (by decide) (Nat.le_of_ble_eq_true rfl) (Nat.le_of_ble_eq_true rfl) (Nat.le_of_ble_eq_true rfl) ?_
    refine V.ifb_ne (tgt := 25) dX10_fleet_16 rfl (fun c16 => ?_) (fun c16 => ?_)
    · refine V.aload_n (i := 0) dX10_fleet_25 rfl rfl ?_
      refine V.iload_n (i := 1) dX10_fleet_26 rfl rfl ?_
      refine V.iload_n (i := 2) dX10_fleet_27 rfl rfl ?_
      refine V.cv2D (ci := 10) dX10_fleet_28 lk_X10_130 (by decide) rfl hR.F.x (k_fleetBits hR hI j on hj ⟨rfl, rfl⟩) (by decide) (by decide) (Nat.le_of_ble_eq_true rfl) (Nat.le_of_ble_eq_true rfl) (Nat.le_of_ble_eq_true rfl) ?_
      refine V.iret dX10_fleet_31 (Nat.le_of_ble_eq_true rfl) (Nat.le_of_ble_eq_true rfl) ?_
      exact pu hp (by unfold s_fleet; rw [tn_nI (by omega), if_pos (by omega)]) hR rfl
    · refine V.aload_n (i := 0) dX10_fleet_19 rfl rfl ?_
      refine V.iconst dX10_fleet_20 ic_1 ?_
      refine V.cv1D (ci := 10) dX10_fleet_21 lk_X10_82 (by decide) rfl hR.F.x (k_finding hR _ (by decide) ⟨rfl, rfl⟩) (by decide) (by decide) (Nat.le_of_ble_eq_true rfl) (Nat.le_of_ble_eq_true rfl) (Nat.le_of_ble_eq_true rfl) ?_
      refine V.iret dX10_fleet_24 (Nat.le_of_ble_eq_true rfl) (Nat.le_of_ble_eq_true rfl) ?_
      exact puF hp (if_neg (by omega)) hR rfl
end CLS6

