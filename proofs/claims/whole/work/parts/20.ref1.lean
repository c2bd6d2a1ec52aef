/-! ===== the model's small methods ===== -/
theorem isub1 {n : Nat} : nI n - nI 1 = if n = 0 then (-1) else nI (n - 1) := by
  cases n with
  | zero => decide
  | succ n =>
    rw [if_neg (by omega), pk_sub (by omega)]
theorem in_pred {v x : Int32} {n : Nat} (hx : x = nI n) (hn : n < 1000) : (nI 0 ≤ v ∧ v ≤ x - nI 1) ↔ (0 ≤ v.toInt ∧ v.toInt < n) := by
  rw [hx, isub1, fa_le, fa_le]
  split
  · rw [toI 0 (by decide), show ((-1 : Int32)).toInt = -1 from rfl]; omega
  · rw [toI _ (by omega), toI _ (by omega)]; omega
section REF1
variable {E : VE} {σ : Sg} {G : GS} {post : Option Value → Sg → Prop}
set_option maxRecDepth 100000 in
theorem c_isIn {σ : Sg} (v lo hi : Int32) (hp : post (some (.int (b2 (lo ≤ v ∧ v ≤ hi)))) σ) : MX11_isIn E 1 0 0 [.int v, .int lo, .int hi] σ post := by
  refine MA.of RX11 "isIn" [some (.int v), some (.int lo), some (.int hi)] rfl rfl rfl (catAll rfl) (Nat.le_of_ble_eq_true rfl) rfl (fun X => ?_)
  refine V.iload_n (i := 0) dX11_isIn_0 rfl rfl ?_
  refine V.iload_n (i := 1) dX11_isIn_1 rfl rfl ?_
  refine V.icmp_lt (tgt := 14) dX11_isIn_2 rfl (fun c2 => ?_) (fun c2 => ?_)
  · refine V.iconst dX11_isIn_14 ic_0 ?_
    refine V.zret dX11_isIn_15 (by decide) (Nat.le_of_ble_eq_true rfl) (Nat.le_of_ble_eq_true rfl) ?_
    first | (rw [b2F (fun h => absurd (Int32.not_lt.mpr h.1) (by simpa using c2))] at hp; exact hp) | (rw [b2F (fun h => absurd (Int32.not_lt.mpr h.2) (by simpa using c7))] at hp; exact hp) | (rw [b2T ⟨Int32.not_lt.mp c2, Int32.not_lt.mp c7⟩] at hp; exact hp)
  · refine V.iload_n (i := 0) dX11_isIn_5 rfl rfl ?_
    refine V.iload_n (i := 2) dX11_isIn_6 rfl rfl ?_
    refine V.icmp_gt (tgt := 14) dX11_isIn_7 rfl (fun c7 => ?_) (fun c7 => ?_)
    · refine V.iconst dX11_isIn_14 ic_0 ?_
      refine V.zret dX11_isIn_15 (by decide) (Nat.le_of_ble_eq_true rfl) (Nat.le_of_ble_eq_true rfl) ?_
      first | (rw [b2F (fun h => absurd (Int32.not_lt.mpr h.1) (by simpa using c2))] at hp; exact hp) | (rw [b2F (fun h => absurd (Int32.not_lt.mpr h.2) (by simpa using c7))] at hp; exact hp) | (rw [b2T ⟨Int32.not_lt.mp c2, Int32.not_lt.mp c7⟩] at hp; exact hp)
    · refine V.iconst dX11_isIn_10 ic_1 ?_
      refine V.goto (tgt := 15) dX11_isIn_11 rfl ?_
      refine V.zret dX11_isIn_15 (by decide) (Nat.le_of_ble_eq_true rfl) (Nat.le_of_ble_eq_true rfl) ?_
      first | (rw [b2F (fun h => absurd (Int32.not_lt.mpr h.1) (by simpa using c2))] at hp; exact hp) | (rw [b2F (fun h => absurd (Int32.not_lt.mpr h.2) (by simpa using c7))] at hp; exact hp) | (rw [b2T ⟨Int32.not_lt.mp c2, Int32.not_lt.mp c7⟩] at hp; exact hp)
theorem c_isInN {σ : Sg} (v : Int32) (lo hi : Nat) (h1 : lo < 2 ^ 31) (h2 : hi < 2 ^ 31) (hp : post (some (.int (b2 ((lo : Int) ≤ v.toInt ∧ v.toInt ≤ (hi : Int))))) σ) : MX11_isIn E 1 0 0 [.int v, .int (nI lo), .int (nI hi)] σ post :=
  c_isIn v _ _ (b2_post (by rw [fa_le, fa_le, toI _ h1, toI _ h2]) hp)
set_option maxRecDepth 100000 in
theorem c_finding (hE : eF E = true) (k : Nat) (hk : k < 6) (hp : post (some (.int (fnd G k).1)) (wG σ (fnd G k).2)) : MX11_finding E 1 0 0 [.ref (eQ E 48), .int (nI k)] (wG σ G) post := by
  refine MA.of RX11 "finding" [some (.ref (eQ E 48)), some (.int (nI k))] rfl rfl rfl (catAll rfl) (Nat.le_of_ble_eq_true rfl) rfl (fun X => ?_)
  refine V.aload_n (i := 0) dX11_finding_0 rfl rfl ?_
  refine V.mgeta hE dX11_finding_1 fl_X11_105 rfl ?_
  refine V.iload_n (i := 1) dX11_finding_4 rfl rfl ?_
  refine V.dup2 dX11_finding_5 rfl rfl ?_
  refine V.miald hE dX11_finding_6 rfl rfl rfl (show _ < 6 from (by omega)) ?_
  refine V.iconst dX11_finding_7 ic_1 ?_
  refine V.iadd dX11_finding_8 ?_
  refine V.miast hE dX11_finding_9 rfl rfl rfl (show _ < 6 from (by omega)) ?_
  refine V.ldc dX11_finding_10 wv_X11_120 ?_
  refine V.iload_n (i := 1) dX11_finding_12 rfl rfl ?_
  refine V.isub dX11_finding_13 ?_
  refine V.iret dX11_finding_14 (Nat.le_of_ble_eq_true rfl) (Nat.le_of_ble_eq_true rfl) ?_
  exact hp
set_option maxRecDepth 100000 in
theorem c_isShip (hE : eF E = true) (v : Int32) (hI : Inv G) (hp : post (some (.int (b2 (0 ≤ v.toInt ∧ v.toInt < nSh G)))) (wG σ G)) : MX11_isShip E 2 0 0 [.ref (eQ E 48), .int v] (wG σ G) post := by
  refine MA.of RX11 "isShip" [some (.ref (eQ E 48)), some (.int v)] rfl rfl rfl (catAll rfl) (Nat.le_of_ble_eq_true rfl) rfl (fun X => ?_)
  refine V.iload_n (i := 1) dX11_isShip_0 rfl rfl ?_
  refine V.iconst dX11_isShip_1 ic_0 ?_
  refine V.aload_n (i := 0) dX11_isShip_2 rfl rfl ?_
  refine V.mgeti hE dX11_isShip_3 fl_X11_121 rfl ?_
  refine V.iconst dX11_isShip_6 ic_1 ?_
  refine V.isub dX11_isShip_7 ?_
  refine V.cs3D dX11_isShip_8 lk_X11_124 (c_isIn _ _ _ ⟨rfl, rfl⟩) (by decide) (by decide) (Nat.le_of_ble_eq_true rfl) (Nat.le_of_ble_eq_true rfl) (Nat.le_of_ble_eq_true rfl) ?_
  refine V.zret dX11_isShip_11 (b2_01 _) (Nat.le_of_ble_eq_true rfl) (Nat.le_of_ble_eq_true rfl) ?_
  exact b2_post (in_pred hI.shN.1 (by have := hI.shN.2; omega)) hp
set_option maxRecDepth 100000 in
theorem c_isCall (hE : eF E = true) (v : Int32) (hI : Inv G) (hp : post (some (.int (b2 (0 ≤ v.toInt ∧ v.toInt < nCa G)))) (wG σ G)) : MX11_isCall E 2 0 0 [.ref (eQ E 48), .int v] (wG σ G) post := by
  refine MA.of RX11 "isCall" [some (.ref (eQ E 48)), some (.int v)] rfl rfl rfl (catAll rfl) (Nat.le_of_ble_eq_true rfl) rfl (fun X => ?_)
  refine V.iload_n (i := 1) dX11_isCall_0 rfl rfl ?_
  refine V.iconst dX11_isCall_1 ic_0 ?_
  refine V.aload_n (i := 0) dX11_isCall_2 rfl rfl ?_
  refine V.mgeti hE dX11_isCall_3 fl_X11_128 rfl ?_
  refine V.iconst dX11_isCall_6 ic_1 ?_
  refine V.isub dX11_isCall_7 ?_
  refine V.cs3D dX11_isCall_8 lk_X11_124 (c_isIn _ _ _ ⟨rfl, rfl⟩) (by decide) (by decide) (Nat.le_of_ble_eq_true rfl) (Nat.le_of_ble_eq_true rfl) (Nat.le_of_ble_eq_true rfl) ?_
  refine V.zret dX11_isCall_11 (b2_01 _) (Nat.le_of_ble_eq_true rfl) (Nat.le_of_ble_eq_true rfl) ?_
  exact b2_post (in_pred hI.caN.1 (by have := hI.caN.2; omega)) hp
set_option maxRecDepth 100000 in
theorem c_isLook (hE : eF E = true) (v : Int32) (hI : Inv G) (hp : post (some (.int (b2 (0 ≤ v.toInt ∧ v.toInt < nLk G)))) (wG σ G)) : MX11_isLook E 2 0 0 [.ref (eQ E 48), .int v] (wG σ G) post := by
  refine MA.of RX11 "isLook" [some (.ref (eQ E 48)), some (.int v)] rfl rfl rfl (catAll rfl) (Nat.le_of_ble_eq_true rfl) rfl (fun X => ?_)
  refine V.iload_n (i := 1) dX11_isLook_0 rfl rfl ?_
  refine V.iconst dX11_isLook_1 ic_0 ?_
  refine V.aload_n (i := 0) dX11_isLook_2 rfl rfl ?_
  refine V.mgeti hE dX11_isLook_3 fl_X11_131 rfl ?_
  refine V.iconst dX11_isLook_6 ic_1 ?_
  refine V.isub dX11_isLook_7 ?_
  refine V.cs3D dX11_isLook_8 lk_X11_124 (c_isIn _ _ _ ⟨rfl, rfl⟩) (by decide) (by decide) (Nat.le_of_ble_eq_true rfl) (Nat.le_of_ble_eq_true rfl) (Nat.le_of_ble_eq_true rfl) ?_
  refine V.zret dX11_isLook_11 (b2_01 _) (Nat.le_of_ble_eq_true rfl) (Nat.le_of_ble_eq_true rfl) ?_
  exact b2_post (in_pred hI.lkN.1 (by have := hI.lkN.2; omega)) hp
set_option maxRecDepth 100000 in
theorem c_isDay {σ : Sg} (v : Int32) (hp : post (some (.int (b2 (0 ≤ v.toInt ∧ v.toInt ≤ 9999)))) σ) : MX11_isDay E 2 0 0 [.int v] σ post := by
  refine MA.of RX11 "isDay" [some (.int v)] rfl rfl rfl (catAll rfl) (Nat.le_of_ble_eq_true rfl) rfl (fun X => ?_)
  refine V.iload_n (i := 0) dX11_isDay_0 rfl rfl ?_
  refine V.iconst dX11_isDay_1 ic_0 ?_
  refine V.sipush dX11_isDay_2 sc_9999 ?_
  refine V.cs3D dX11_isDay_5 lk_X11_124 (c_isInN _ 0 9999 (by decide) (by decide) ⟨rfl, rfl⟩) (by decide) (by decide) (Nat.le_of_ble_eq_true rfl) (Nat.le_of_ble_eq_true rfl) (Nat.le_of_ble_eq_true rfl) ?_
  refine V.zret dX11_isDay_8 (b2_01 _) (Nat.le_of_ble_eq_true rfl) (Nat.le_of_ble_eq_true rfl) ?_
  exact b2_post (by simp) hp
set_option maxRecDepth 100000 in
theorem c_isUnder (hE : eF E = true) (i : Nat) (k : Int32) (hi : i < 16) (hp : post (some (.int (b2 (k = 0 ∨ G 2 i = k ∨ (k = nI 1 ∧ G 2 i = nI 2))))) (wG σ G)) : MX11_isUnder E 1 0 0 [.ref (eQ E 48), .int (nI i), .int k] (wG σ G) post := by
  refine MA.of RX11 "isUnder" [some (.ref (eQ E 48)), some (.int (nI i)), some (.int k)] rfl rfl rfl (catAll rfl) (Nat.le_of_ble_eq_true rfl) rfl (fun X => ?_)
  refine V.iload_n (i := 2) dX11_isUnder_0 rfl rfl ?_
  refine V.if_eq (tgt := 29) dX11_isUnder_1 rfl (fun c1 => ?_) (fun c1 => ?_)
  · refine V.iconst dX11_isUnder_29 ic_1 ?_
    refine V.goto (tgt := 34) dX11_isUnder_30 rfl ?_
    refine V.zret dX11_isUnder_34 (by decide) (Nat.le_of_ble_eq_true rfl) (Nat.le_of_ble_eq_true rfl) ?_
    first | exact b2_ret1 (by first | exact Or.inl c1 | exact Or.inr (Or.inl c11) | exact Or.inr (Or.inr ⟨c16, c26⟩)) hp | exact b2_ret0 (by simp_all) hp
  · refine V.aload_n (i := 0) dX11_isUnder_4 rfl rfl ?_
    refine V.mgeta hE dX11_isUnder_5 fl_X11_7 rfl ?_
    refine V.iload_n (i := 1) dX11_isUnder_8 rfl rfl ?_
    refine V.miald hE dX11_isUnder_9 rfl rfl rfl (show _ < 16 from (by omega)) ?_
    refine V.iload_n (i := 2) dX11_isUnder_10 rfl rfl ?_
    refine V.icmp_eq (tgt := 29) dX11_isUnder_11 rfl (fun c11 => ?_) (fun c11 => ?_)
    · refine V.iconst dX11_isUnder_29 ic_1 ?_
      refine V.goto (tgt := 34) dX11_isUnder_30 rfl ?_
      refine V.zret dX11_isUnder_34 (by decide) (Nat.le_of_ble_eq_true rfl) (Nat.le_of_ble_eq_true rfl) ?_
      first | exact b2_ret1 (by first | exact Or.inl c1 | exact Or.inr (Or.inl c11) | exact Or.inr (Or.inr ⟨c16, c26⟩)) hp | exact b2_ret0 (by simp_all) hp
    · refine V.iload_n (i := 2) dX11_isUnder_14 rfl rfl ?_
      refine V.iconst dX11_isUnder_15 ic_1 ?_
      refine V.icmp_ne (tgt := 33) dX11_isUnder_16 rfl (fun c16 => ?_) (fun c16 => ?_)
      · refine V.iconst dX11_isUnder_33 ic_0 ?_
        refine V.zret dX11_isUnder_34 (by decide) (Nat.le_of_ble_eq_true rfl) (Nat.le_of_ble_eq_true rfl) ?_
        first | exact b2_ret1 (by first | exact Or.inl c1 | exact Or.inr (Or.inl c11) | exact Or.inr (Or.inr ⟨c16, c26⟩)) hp | exact b2_ret0 (by simp_all) hp
      · refine V.aload_n (i := 0) dX11_isUnder_19 rfl rfl ?_
        refine V.mgeta hE dX11_isUnder_20 fl_X11_7 rfl ?_
        refine V.iload_n (i := 1) dX11_isUnder_23 rfl rfl ?_
        refine V.miald hE dX11_isUnder_24 rfl rfl rfl (show _ < 16 from (by omega)) ?_
        refine V.iconst dX11_isUnder_25 ic_2 ?_
        refine V.icmp_ne (tgt := 33) dX11_isUnder_26 rfl (fun c26 => ?_) (fun c26 => ?_)
        · refine V.iconst dX11_isUnder_33 ic_0 ?_
          refine V.zret dX11_isUnder_34 (by decide) (Nat.le_of_ble_eq_true rfl) (Nat.le_of_ble_eq_true rfl) ?_
          first | exact b2_ret1 (by first | exact Or.inl c1 | exact Or.inr (Or.inl c11) | exact Or.inr (Or.inr ⟨c16, c26⟩)) hp | exact b2_ret0 (by simp_all) hp
        · refine V.iconst dX11_isUnder_29 ic_1 ?_
          refine V.goto (tgt := 34) dX11_isUnder_30 rfl ?_
          refine V.zret dX11_isUnder_34 (by decide) (Nat.le_of_ble_eq_true rfl) (Nat.le_of_ble_eq_true rfl) ?_
          first | exact b2_ret1 (by first | exact Or.inl c1 | exact Or.inr (Or.inl c11) | exact Or.inr (Or.inr ⟨c16, c26⟩)) hp | exact b2_ret0 (by simp_all) hp
set_option maxRecDepth 100000 in
theorem c_hoursOf (hE : eF E = true) (i : Nat) (hi : i < 16) (hp : post (some (.int (hours (G 2 i)))) (wG σ G)) : MX11_hoursOf E 1 0 0 [.ref (eQ E 48), .int (nI i)] (wG σ G) post := by
  refine MA.of RX11 "hoursOf" [some (.ref (eQ E 48)), some (.int (nI i))] rfl rfl rfl (catAll rfl) (Nat.le_of_ble_eq_true rfl) rfl (fun X => ?_)
  refine V.aload_n (i := 0) dX11_hoursOf_0 rfl rfl ?_
  refine V.mgeta hE dX11_hoursOf_1 fl_X11_7 rfl ?_
  refine V.iload_n (i := 1) dX11_hoursOf_4 rfl rfl ?_
  refine V.miald hE dX11_hoursOf_5 rfl rfl rfl (show _ < 16 from (by omega)) ?_
  refine V.iconst dX11_hoursOf_6 ic_1 ?_
  refine V.icmp_ne (tgt := 14) dX11_hoursOf_7 rfl (fun c7 => ?_) (fun c7 => ?_)
  · refine V.aload_n (i := 0) dX11_hoursOf_14 rfl rfl ?_
    refine V.mgeta hE dX11_hoursOf_15 fl_X11_7 rfl ?_
    refine V.iload_n (i := 1) dX11_hoursOf_18 rfl rfl ?_
    refine V.miald hE dX11_hoursOf_19 rfl rfl rfl (show _ < 16 from (by omega)) ?_
    refine V.iconst dX11_hoursOf_20 ic_2 ?_
    refine V.icmp_ne (tgt := 29) dX11_hoursOf_21 rfl (fun c21 => ?_) (fun c21 => ?_)
    · refine V.aload_n (i := 0) dX11_hoursOf_29 rfl rfl ?_
      refine V.mgeta hE dX11_hoursOf_30 fl_X11_7 rfl ?_
      refine V.iload_n (i := 1) dX11_hoursOf_33 rfl rfl ?_
      refine V.miald hE dX11_hoursOf_34 rfl rfl rfl (show _ < 16 from (by omega)) ?_
      refine V.iconst dX11_hoursOf_35 ic_3 ?_
      refine V.icmp_ne (tgt := 43) dX11_hoursOf_36 rfl (fun c36 => ?_) (fun c36 => ?_)
      · refine V.iconst dX11_hoursOf_43 ic_3 ?_
        refine V.iret dX11_hoursOf_44 (Nat.le_of_ble_eq_true rfl) (Nat.le_of_ble_eq_true rfl) ?_
        unfold hours at hp; simp_all
      · refine V.iconst dX11_hoursOf_39 ic_4 ?_
        refine V.goto (tgt := 44) dX11_hoursOf_40 rfl ?_
        refine V.iret dX11_hoursOf_44 (Nat.le_of_ble_eq_true rfl) (Nat.le_of_ble_eq_true rfl) ?_
        unfold hours at hp; simp_all
    · refine V.bipush dX11_hoursOf_24 bc_7 ?_
      refine V.goto (tgt := 44) dX11_hoursOf_26 rfl ?_
      refine V.iret dX11_hoursOf_44 (Nat.le_of_ble_eq_true rfl) (Nat.le_of_ble_eq_true rfl) ?_
      unfold hours at hp; simp_all
  · refine V.iconst dX11_hoursOf_10 ic_5 ?_
    refine V.goto (tgt := 44) dX11_hoursOf_11 rfl ?_
    refine V.iret dX11_hoursOf_44 (Nat.le_of_ble_eq_true rfl) (Nat.le_of_ble_eq_true rfl) ?_
    unfold hours at hp; simp_all
set_option maxRecDepth 100000 in
theorem c_as (hE : eF E = true) (s k : Int32) (hI : Inv G) (hp : post (some (.int (s_as G s k).1)) (wG σ (s_as G s k).2)) : MX11_as E 3 0 0 [.ref (eQ E 48), .int s, .int k] (wG σ G) post := by
  refine MA.of RX11 "as" [some (.ref (eQ E 48)), some (.int s), some (.int k)] rfl rfl rfl (catAll rfl) (Nat.le_of_ble_eq_true rfl) rfl (fun X => ?_)
  have h16 := hI.shN.2
  refine V.aload_n (i := 0) dX11_as_0 rfl rfl ?_
  refine V.iload_n (i := 1) dX11_as_1 rfl rfl ?_
  refine V.cq1D hE dX11_as_2 lk_X11_141 rfl (c_isShip hE _ hI ⟨rfl, rfl⟩) (by decide) (by decide) (Nat.le_of_ble_eq_true rfl) (Nat.le_of_ble_eq_true rfl) (Nat.le_of_ble_eq_true rfl) ?_
  refine V.ifb_eq (tgt := 17) dX11_as_5 rfl (fun c5 => ?_) (fun c5 => ?_)
  · refine V.aload_n (i := 0) dX11_as_17 rfl rfl ?_
    refine V.iconst dX11_as_18 ic_1 ?_
    refine V.cq1D hE dX11_as_19 lk_X11_137 rfl (c_finding hE _ (by decide) ⟨rfl, rfl⟩) (by decide) (by decide) (Nat.le_of_ble_eq_true rfl) (Nat.le_of_ble_eq_true rfl) (Nat.le_of_ble_eq_true rfl) ?_
    refine V.iret dX11_as_22 (Nat.le_of_ble_eq_true rfl) (Nat.le_of_ble_eq_true rfl) ?_
    exact pr_post (if_neg (by omega)) hp
  · obtain ⟨i, hi, rfl⟩ := idxOf c5
    refine V.iload_n (i := 2) dX11_as_8 rfl rfl ?_
    refine V.iconst dX11_as_9 ic_0 ?_
    refine V.iconst dX11_as_10 ic_3 ?_
    refine V.cs3D dX11_as_11 lk_X11_124 (c_isInN _ 0 3 (by decide) (by decide) ⟨rfl, rfl⟩) (by decide) (by decide) (Nat.le_of_ble_eq_true rfl) (Nat.le_of_ble_eq_true rfl) (Nat.le_of_ble_eq_true rfl) ?_
    refine V.ifb_ne (tgt := 23) dX11_as_14 rfl (fun c14 => ?_) (fun c14 => ?_)
    · refine V.aload_n (i := 0) dX11_as_23 rfl rfl ?_
      refine V.iload_n (i := 1) dX11_as_24 rfl rfl ?_
      refine V.iload_n (i := 2) dX11_as_25 rfl rfl ?_
      refine V.cq2D hE dX11_as_26 lk_X11_145 rfl (c_isUnder hE i _ (by omega) ⟨rfl, rfl⟩) (by decide) (by decide) (Nat.le_of_ble_eq_true rfl) (Nat.le_of_ble_eq_true rfl) (Nat.le_of_ble_eq_true rfl) ?_
      refine V.ifb_eq (tgt := 40) dX11_as_29 rfl (fun c29 => ?_) (fun c29 => ?_)
      · refine V.aload_n (i := 0) dX11_as_40 rfl rfl ?_
        refine V.iconst dX11_as_41 ic_5 ?_
        refine V.cq1D hE dX11_as_42 lk_X11_137 rfl (c_finding hE _ (by decide) ⟨rfl, rfl⟩) (by decide) (by decide) (Nat.le_of_ble_eq_true rfl) (Nat.le_of_ble_eq_true rfl) (Nat.le_of_ble_eq_true rfl) ?_
        refine V.iret dX11_as_45 (Nat.le_of_ble_eq_true rfl) (Nat.le_of_ble_eq_true rfl) ?_
        unfold s_as at hp; rw [tn_nI (by omega), if_pos (by omega)] at hp; first | (rw [if_pos c29] at hp; exact hp) | (rw [if_neg c29] at hp; exact hp)
      · refine V.aload_n (i := 0) dX11_as_32 rfl rfl ?_
        refine V.iload_n (i := 1) dX11_as_33 rfl rfl ?_
        refine V.cq1D hE dX11_as_34 lk_X11_149 rfl (c_hoursOf hE i (by omega) ⟨rfl, rfl⟩) (by decide) (by decide) (Nat.le_of_ble_eq_true rfl) (Nat.le_of_ble_eq_true rfl) (Nat.le_of_ble_eq_true rfl) ?_
        refine V.goto (tgt := 45) dX11_as_37 rfl ?_
        refine V.iret dX11_as_45 (Nat.le_of_ble_eq_true rfl) (Nat.le_of_ble_eq_true rfl) ?_
        unfold s_as at hp; rw [tn_nI (by omega), if_pos (by omega)] at hp; first | (rw [if_pos c29] at hp; exact hp) | (rw [if_neg c29] at hp; exact hp)
    · refine V.aload_n (i := 0) dX11_as_17 rfl rfl ?_
      refine V.iconst dX11_as_18 ic_1 ?_
      refine V.cq1D hE dX11_as_19 lk_X11_137 rfl (c_finding hE _ (by decide) ⟨rfl, rfl⟩) (by decide) (by decide) (Nat.le_of_ble_eq_true rfl) (Nat.le_of_ble_eq_true rfl) (Nat.le_of_ble_eq_true rfl) ?_
      refine V.iret dX11_as_22 (Nat.le_of_ble_eq_true rfl) (Nat.le_of_ble_eq_true rfl) ?_
      exact pr_post (if_neg (by omega)) hp
end REF1

