/-! ===== the class: tallies ===== -/
def TL (σ : Sg) (t a b c d : Nat) : Prop := sI σ 7 t 0 = nI a ∧ sI σ 7 t 1 = nI b ∧ sI σ 7 t 2 = nI c ∧ sI σ 7 t 3 = nI d
def o1 (x : Int32) : Nat := if x = 0 then 0 else 1
section TALLY
variable {E : VE} {σ : Sg} {G : GS} {x : Nat} {P : PT} {post : Option Value → Sg → Prop}
theorem V.mmin {X : VX} {own mn : String} {cc : ByteArray} {nL : Nat} {ret : Option FieldType} {d mc ms : Nat} {Q : State → Prop} {nc ns pc : Nat} {ls : List (Option Value)} {idx : Nat} {rest : List Value} (a b : Nat) (ha : a < 2 ^ 31) (hb : b < 2 ^ 31) (hd : decode cc pc = .ok (.invokestatic idx, 3)) (hw : clS own idx yJ9_min_7cf53 cJ9_min_7cf53 2 (some .int) 2) (hr : (rest.map fun v => v.category).sum ≤ 8) (hdd : 1 ≤ d) (h1 : nc ≤ mc) (h2 : ns ≤ ms) (kk : V E X own mn cc nL ret d mc ms Q σ nc ns (pc + 3) ls (.int (nI (min a b)) :: rest)) : V E X own mn cc nL ret d mc ms Q σ nc ns pc ls (.int (nI b) :: .int (nI a) :: rest) := by
  intro C H locs arr hA hl hL
  obtain ⟨w1, w2, w3, w4, -⟩ := hw
  have hts := C.2.2.2.2.1
  have hR := C.2.2.2.2.2.2.2.2.2
  have e : (if nI b < nI a then nI b else nI a) = nI (min a b) := by
    by_cases q : b < a
    · rw [if_pos ((nI_ltI hb ha).mpr q), Nat.min_eq_right (by omega)]
    · rw [if_neg (fun z => q ((nI_ltI hb ha).mp z)), Nat.min_eq_left (by omega)]
  exact va_mmin C.1 C.2.1 (C.2.2.1.trans hL.1.symm) C.2.2.2.1 (hts _ w1) (hts _ w2) (hts _ w3) (hts _ w4) (by omega) (by omega) (by omega) (by omega) hd (by rw [e]; exact kk C H locs arr hA hl hL)
set_option maxRecDepth 100000 in
theorem k_clear {t : Nat} (ht : sT σ t = 7) (hp : ∀ s, scr σ s ∧ TL s t 0 0 0 0 → post none s) : MX6_clear E 1 0 0 [.ref t] σ post := by
  refine MA.of RX6 "clear" [some (.ref t)] rfl rfl rfl (catAll rfl) (Nat.le_of_ble_eq_true rfl) rfl (fun X => ?_)
  refine V.aload_n (i := 0) dX6_clear_0 rfl rfl ?_
  refine V.iconst dX6_clear_1 ic_0 ?_
  refine V.puti dX6_clear_2 fl_X6_7 rfl rfl ht ?_
  refine V.aload_n (i := 0) dX6_clear_5 rfl rfl ?_
  refine V.iconst dX6_clear_6 ic_0 ?_
  refine V.puti dX6_clear_7 fl_X6_13 rfl rfl ht ?_
  refine V.aload_n (i := 0) dX6_clear_10 rfl rfl ?_
  refine V.iconst dX6_clear_11 ic_0 ?_
  refine V.puti dX6_clear_12 fl_X6_16 rfl rfl ht ?_
  refine V.aload_n (i := 0) dX6_clear_15 rfl rfl ?_
  refine V.iconst dX6_clear_16 ic_0 ?_
  refine V.puti dX6_clear_17 fl_X6_19 rfl rfl ht ?_
  refine V.vret dX6_clear_20 (Nat.le_of_ble_eq_true rfl) (Nat.le_of_ble_eq_true rfl) ?_
  exact hp _ ⟨(((scr.wI rfl).trans (scr.wI rfl)).trans (scr.wI rfl)).trans (scr.wI rfl), by simp [sI_wI], by simp [sI_wI], by simp [sI_wI], by simp [sI_wI]⟩
set_option maxRecDepth 100000 in
theorem k_add {t a b c d : Nat} (ht : sT σ t = 7) (hT : TL σ t a b c d) (u v : Int32) (hp : ∀ s, scr σ s ∧ TL s t (a + o1 u) (b + o1 u * o1 v) (c + 1) (d + o1 v) → post none s) : MX6_add E 1 0 0 [.ref t, .int u, .int v] σ post := by
  refine MA.of RX6 "add" [some (.ref t), some (.int u), some (.int v)] rfl rfl rfl (catAll rfl) (Nat.le_of_ble_eq_true rfl) rfl (fun X => ?_)
  obtain ⟨t0, t1, t2, t3⟩ := hT
  by_cases hu : u = 0
  · by_cases hv : v = 0
    · skip
      refine V.aload_n (i := 0) dX6_add_0 rfl rfl ?_
      refine V.dup dX6_add_1 rfl ?_
      refine V.geti dX6_add_2 fl_X6_16 rfl ht ?_
      refine V.as _ t2 ?_
      refine V.iconst dX6_add_5 ic_1 ?_
      refine V.iadd dX6_add_6 ?_
      refine V.as _ (nI_add _ _) ?_
      refine V.puti dX6_add_7 fl_X6_16 rfl rfl ht ?_
      refine V.aload_n (i := 0) dX6_add_10 rfl rfl ?_
      refine V.dup dX6_add_11 rfl ?_
      refine V.geti dX6_add_12 fl_X6_19 rfl ht ?_
      refine V.as (nI d) (by simp [sI_wI, t3]) ?_
      refine V.iload_n (i := 2) dX6_add_15 rfl rfl ?_
      refine V.if_eqT (tgt := 23) dX6_add_16 rfl hv ?_
      refine V.iconst dX6_add_23 ic_0 ?_
      refine V.iadd dX6_add_24 ?_
      refine V.as _ (nI_add _ _) ?_
      refine V.puti dX6_add_25 fl_X6_19 rfl rfl ht ?_
      refine V.aload_n (i := 0) dX6_add_28 rfl rfl ?_
      refine V.dup dX6_add_29 rfl ?_
      refine V.geti dX6_add_30 fl_X6_7 rfl ht ?_
      refine V.as (nI a) (by simp [sI_wI, t0]) ?_
      refine V.iload_n (i := 1) dX6_add_33 rfl rfl ?_
      refine V.if_eqT (tgt := 41) dX6_add_34 rfl hu ?_
      refine V.iconst dX6_add_41 ic_0 ?_
      refine V.iadd dX6_add_42 ?_
      refine V.as _ (nI_add _ _) ?_
      refine V.puti dX6_add_43 fl_X6_7 rfl rfl ht ?_
      refine V.aload_n (i := 0) dX6_add_46 rfl rfl ?_
      refine V.dup dX6_add_47 rfl ?_
      refine V.geti dX6_add_48 fl_X6_13 rfl ht ?_
      refine V.as (nI b) (by simp [sI_wI, t1]) ?_
      refine V.iload_n (i := 1) dX6_add_51 rfl rfl ?_
      refine V.if_eqT (tgt := 63) dX6_add_52 rfl hu ?_
      refine V.iconst dX6_add_63 ic_0 ?_
      refine V.iadd dX6_add_64 ?_
      refine V.as _ (nI_add _ _) ?_
      refine V.puti dX6_add_65 fl_X6_13 rfl rfl ht ?_
      refine V.vret dX6_add_68 (Nat.le_of_ble_eq_true rfl) (Nat.le_of_ble_eq_true rfl) ?_
      rw [o1, o1, if_pos hu, if_pos hv] at hp; exact hp _ ⟨(((scr.wI rfl).trans (scr.wI rfl)).trans (scr.wI rfl)).trans (scr.wI rfl), by simp [sI_wI], by simp [sI_wI], by simp [sI_wI], by simp [sI_wI]⟩
    · skip
      refine V.aload_n (i := 0) dX6_add_0 rfl rfl ?_
      refine V.dup dX6_add_1 rfl ?_
      refine V.geti dX6_add_2 fl_X6_16 rfl ht ?_
      refine V.as _ t2 ?_
      refine V.iconst dX6_add_5 ic_1 ?_
      refine V.iadd dX6_add_6 ?_
      refine V.as _ (nI_add _ _) ?_
      refine V.puti dX6_add_7 fl_X6_16 rfl rfl ht ?_
      refine V.aload_n (i := 0) dX6_add_10 rfl rfl ?_
      refine V.dup dX6_add_11 rfl ?_
      refine V.geti dX6_add_12 fl_X6_19 rfl ht ?_
      refine V.as (nI d) (by simp [sI_wI, t3]) ?_
      refine V.iload_n (i := 2) dX6_add_15 rfl rfl ?_
      refine V.if_eqF (tgt := 23) dX6_add_16 rfl hv ?_
      refine V.iconst dX6_add_19 ic_1 ?_
      refine V.goto (tgt := 24) dX6_add_20 rfl ?_
      refine V.iadd dX6_add_24 ?_
      refine V.as _ (nI_add _ _) ?_
      refine V.puti dX6_add_25 fl_X6_19 rfl rfl ht ?_
      refine V.aload_n (i := 0) dX6_add_28 rfl rfl ?_
      refine V.dup dX6_add_29 rfl ?_
      refine V.geti dX6_add_30 fl_X6_7 rfl ht ?_
      refine V.as (nI a) (by simp [sI_wI, t0]) ?_
      refine V.iload_n (i := 1) dX6_add_33 rfl rfl ?_
      refine V.if_eqT (tgt := 41) dX6_add_34 rfl hu ?_
      refine V.iconst dX6_add_41 ic_0 ?_
      refine V.iadd dX6_add_42 ?_
      refine V.as _ (nI_add _ _) ?_
      refine V.puti dX6_add_43 fl_X6_7 rfl rfl ht ?_
      refine V.aload_n (i := 0) dX6_add_46 rfl rfl ?_
      refine V.dup dX6_add_47 rfl ?_
      refine V.geti dX6_add_48 fl_X6_13 rfl ht ?_
      refine V.as (nI b) (by simp [sI_wI, t1]) ?_
      refine V.iload_n (i := 1) dX6_add_51 rfl rfl ?_
      refine V.if_eqT (tgt := 63) dX6_add_52 rfl hu ?_
      refine V.iconst dX6_add_63 ic_0 ?_
      refine V.iadd dX6_add_64 ?_
      refine V.as _ (nI_add _ _) ?_
      refine V.puti dX6_add_65 fl_X6_13 rfl rfl ht ?_
      refine V.vret dX6_add_68 (Nat.le_of_ble_eq_true rfl) (Nat.le_of_ble_eq_true rfl) ?_
      rw [o1, o1, if_pos hu, if_neg hv] at hp; exact hp _ ⟨(((scr.wI rfl).trans (scr.wI rfl)).trans (scr.wI rfl)).trans (scr.wI rfl), by simp [sI_wI], by simp [sI_wI], by simp [sI_wI], by simp [sI_wI]⟩
  · by_cases hv : v = 0
    · skip
      refine V.aload_n (i := 0) dX6_add_0 rfl rfl ?_
      refine V.dup dX6_add_1 rfl ?_
      refine V.geti dX6_add_2 fl_X6_16 rfl ht ?_
      refine V.as _ t2 ?_
      refine V.iconst dX6_add_5 ic_1 ?_
      refine V.iadd dX6_add_6 ?_
      refine V.as _ (nI_add _ _) ?_
      refine V.puti dX6_add_7 fl_X6_16 rfl rfl ht ?_
      refine V.aload_n (i := 0) dX6_add_10 rfl rfl ?_
      refine V.dup dX6_add_11 rfl ?_
      refine V.geti dX6_add_12 fl_X6_19 rfl ht ?_
      refine V.as (nI d) (by simp [sI_wI, t3]) ?_
      refine V.iload_n (i := 2) dX6_add_15 rfl rfl ?_
      refine V.if_eqT (tgt := 23) dX6_add_16 rfl hv ?_
      refine V.iconst dX6_add_23 ic_0 ?_
      refine V.iadd dX6_add_24 ?_
      refine V.as _ (nI_add _ _) ?_
      refine V.puti dX6_add_25 fl_X6_19 rfl rfl ht ?_
      refine V.aload_n (i := 0) dX6_add_28 rfl rfl ?_
      refine V.dup dX6_add_29 rfl ?_
      refine V.geti dX6_add_30 fl_X6_7 rfl ht ?_
      refine V.as (nI a) (by simp [sI_wI, t0]) ?_
      refine V.iload_n (i := 1) dX6_add_33 rfl rfl ?_
      refine V.if_eqF (tgt := 41) dX6_add_34 rfl hu ?_
      refine V.iconst dX6_add_37 ic_1 ?_
      refine V.goto (tgt := 42) dX6_add_38 rfl ?_
      refine V.iadd dX6_add_42 ?_
      refine V.as _ (nI_add _ _) ?_
      refine V.puti dX6_add_43 fl_X6_7 rfl rfl ht ?_
      refine V.aload_n (i := 0) dX6_add_46 rfl rfl ?_
      refine V.dup dX6_add_47 rfl ?_
      refine V.geti dX6_add_48 fl_X6_13 rfl ht ?_
      refine V.as (nI b) (by simp [sI_wI, t1]) ?_
      refine V.iload_n (i := 1) dX6_add_51 rfl rfl ?_
      refine V.if_eqF (tgt := 63) dX6_add_52 rfl hu ?_
      refine V.iload_n (i := 2) dX6_add_55 rfl rfl ?_
      refine V.if_eqT (tgt := 63) dX6_add_56 rfl hv ?_
      refine V.iconst dX6_add_63 ic_0 ?_
      refine V.iadd dX6_add_64 ?_
      refine V.as _ (nI_add _ _) ?_
      refine V.puti dX6_add_65 fl_X6_13 rfl rfl ht ?_
      refine V.vret dX6_add_68 (Nat.le_of_ble_eq_true rfl) (Nat.le_of_ble_eq_true rfl) ?_
      rw [o1, o1, if_neg hu, if_pos hv] at hp; exact hp _ ⟨(((scr.wI rfl).trans (scr.wI rfl)).trans (scr.wI rfl)).trans (scr.wI rfl), by simp [sI_wI], by simp [sI_wI], by simp [sI_wI], by simp [sI_wI]⟩
    · skip
      refine V.aload_n (i := 0) dX6_add_0 rfl rfl ?_
      refine V.dup dX6_add_1 rfl ?_
      refine V.geti dX6_add_2 fl_X6_16 rfl ht ?_
      refine V.as _ t2 ?_
      refine V.iconst dX6_add_5 ic_1 ?_
      refine V.iadd dX6_add_6 ?_
      refine V.as _ (nI_add _ _) ?_
      refine V.puti dX6_add_7 fl_X6_16 rfl rfl ht ?_
      refine V.aload_n (i := 0) dX6_add_10 rfl rfl ?_
      refine V.dup dX6_add_11 rfl ?_
      refine V.geti dX6_add_12 fl_X6_19 rfl ht ?_
      refine V.as (nI d) (by simp [sI_wI, t3]) ?_
      refine V.iload_n (i := 2) dX6_add_15 rfl rfl ?_
      refine V.if_eqF (tgt := 23) dX6_add_16 rfl hv ?_
      refine V.iconst dX6_add_19 ic_1 ?_
      refine V.goto (tgt := 24) dX6_add_20 rfl ?_
      refine V.iadd dX6_add_24 ?_
      refine V.as _ (nI_add _ _) ?_
      refine V.puti dX6_add_25 fl_X6_19 rfl rfl ht ?_
      refine V.aload_n (i := 0) dX6_add_28 rfl rfl ?_
      refine V.dup dX6_add_29 rfl ?_
      refine V.geti dX6_add_30 fl_X6_7 rfl ht ?_
      refine V.as (nI a) (by simp [sI_wI, t0]) ?_
      refine V.iload_n (i := 1) dX6_add_33 rfl rfl ?_
      refine V.if_eqF (tgt := 41) dX6_add_34 rfl hu ?_
      refine V.iconst dX6_add_37 ic_1 ?_
      refine V.goto (tgt := 42) dX6_add_38 rfl ?_
      refine V.iadd dX6_add_42 ?_
      refine V.as _ (nI_add _ _) ?_
      refine V.puti dX6_add_43 fl_X6_7 rfl rfl ht ?_
      refine V.aload_n (i := 0) dX6_add_46 rfl rfl ?_
      refine V.dup dX6_add_47 rfl ?_
      refine V.geti dX6_add_48 fl_X6_13 rfl ht ?_
      refine V.as (nI b) (by simp [sI_wI, t1]) ?_
      refine V.iload_n (i := 1) dX6_add_51 rfl rfl ?_
      refine V.if_eqF (tgt := 63) dX6_add_52 rfl hu ?_
      refine V.iload_n (i := 2) dX6_add_55 rfl rfl ?_
      refine V.if_eqF (tgt := 63) dX6_add_56 rfl hv ?_
      refine V.iconst dX6_add_59 ic_1 ?_
      refine V.goto (tgt := 64) dX6_add_60 rfl ?_
      refine V.iadd dX6_add_64 ?_
      refine V.as _ (nI_add _ _) ?_
      refine V.puti dX6_add_65 fl_X6_13 rfl rfl ht ?_
      refine V.vret dX6_add_68 (Nat.le_of_ble_eq_true rfl) (Nat.le_of_ble_eq_true rfl) ?_
      rw [o1, o1, if_neg hu, if_neg hv] at hp; exact hp _ ⟨(((scr.wI rfl).trans (scr.wI rfl)).trans (scr.wI rfl)).trans (scr.wI rfl), by simp [sI_wI], by simp [sI_wI], by simp [sI_wI], by simp [sI_wI]⟩
theorem darkI {own bad all ab : Nat} (h1 : own ≤ 60) (h2 : bad ≤ ab) (h3 : all ≤ 60) (h4 : ab ≤ 60) :
    darkN own bad all ab = true ↔ ((own * ab : Nat) : Int) < ((bad * all : Nat) : Int) ∧ ((4 * own * all * ab : Nat) : Int) < (((bad * all : Nat) : Int) - ((own * ab : Nat) : Int)) * (((bad * all : Nat) : Int) - ((own * ab : Nat) : Int)) := by
  unfold darkN
  rw [decide_eq_true_eq]
  constructor
  · rintro ⟨q1, q2, q3⟩
    refine ⟨by omega, ?_⟩
    have : ((bad * all : Nat) : Int) - ((own * ab : Nat) : Int) = ((bad * all - own * ab : Nat) : Int) := by omega
    rw [this]
    exact_mod_cast q3
  · rintro ⟨q2, q3⟩
    have q2n : own * ab < bad * all := by omega
    refine ⟨?_, q2n, ?_⟩
    · refine Classical.byContradiction fun z => ?_
      have : bad = 0 := by omega
      rw [this, Nat.zero_mul] at q2n
      omega
    · have : ((bad * all : Nat) : Int) - ((own * ab : Nat) : Int) = ((bad * all - own * ab : Nat) : Int) := by omega
      rw [this] at q3
      exact_mod_cast q3
set_option maxRecDepth 100000 in
theorem k_isDark {t a b c d : Nat} (ht : sT σ t = 7) (hT : TL σ t a b c d) (h1 : a ≤ 60) (h2 : b ≤ d) (h3 : c ≤ 60) (h4 : d ≤ 60) (hp : post (some (.int (b2 (darkN a b c d = true)))) σ) : MX6_isDark E 1 0 0 [.ref t] σ post := by
  refine MA.of RX6 "isDark" [some (.ref t), none] rfl rfl rfl (catAll rfl) (Nat.le_of_ble_eq_true rfl) rfl (fun X => ?_)
  obtain ⟨t0, t1, t2, t3⟩ := hT
  have hd := darkI (own := a) (bad := b) (all := c) (ab := d) h1 h2 h3 h4
  have m1 : b * c ≤ 3600 := Nat.mul_le_mul (show b ≤ 60 by omega) h3
  have m2 : a * d ≤ 3600 := Nat.mul_le_mul h1 h4
  have m3 : 4 * a * c * d ≤ 864000 := Nat.mul_le_mul (Nat.mul_le_mul (Nat.mul_le_mul (Nat.le_refl 4) h1) h3) h4
  have e1 : (nI (b * c) - nI (a * d)).toInt = ((b * c : Nat) : Int) - ((a * d : Nat) : Int) := pk_sub_toInt (by omega) (by omega)
  generalize hz : nI (b * c) - nI (a * d) = z at e1
  generalize hA : b * c = A at *
  generalize hB : a * d = B at *
  generalize hD : 4 * a * c * d = D at *
  have hsq : -12960000 ≤ z.toInt * z.toInt ∧ z.toInt * z.toInt ≤ 12960000 := by
    have h4 : ((z.toInt.natAbs * z.toInt.natAbs : Nat) : Int) = z.toInt * z.toInt := by rw [Int.natCast_mul]; exact Int.natAbs_mul_self' z.toInt
    have h3 : z.toInt.natAbs * z.toInt.natAbs ≤ 3600 * 3600 := Nat.mul_le_mul (by omega) (by omega)
    omega
  have e2 : (z * z).toInt = z.toInt * z.toInt := fb_mulI (by omega) (by omega)
  refine V.aload_n (i := 0) dX6_isDark_0 rfl rfl ?_
  refine V.geti dX6_isDark_1 fl_X6_13 rfl ht ?_
  refine V.as _ t1 ?_
  refine V.aload_n (i := 0) dX6_isDark_4 rfl rfl ?_
  refine V.geti dX6_isDark_5 fl_X6_16 rfl ht ?_
  refine V.as _ t2 ?_
  refine V.imul dX6_isDark_8 ?_
  refine V.as _ (pk_mul _ _) ?_
  refine V.aload_n (i := 0) dX6_isDark_9 rfl rfl ?_
  refine V.geti dX6_isDark_10 fl_X6_7 rfl ht ?_
  refine V.as _ t0 ?_
  refine V.aload_n (i := 0) dX6_isDark_13 rfl rfl ?_
  refine V.geti dX6_isDark_14 fl_X6_19 rfl ht ?_
  refine V.as _ t3 ?_
  refine V.imul dX6_isDark_17 ?_
  refine V.as _ (pk_mul _ _) ?_
  refine V.isub dX6_isDark_18 ?_
  refine V.as z (by rw [hA, hB]; exact hz) ?_
  refine V.istore_n1 (by decide) dX6_isDark_19 ?_
  refine V.iload_n (i := 1) dX6_isDark_20 rfl rfl ?_
  refine V.if_le (tgt := 50) dX6_isDark_21 rfl (fun c21 => ?_) (fun c21 => ?_)
  · rw [le0] at c21
    refine V.iconst dX6_isDark_50 ic_0 ?_
    refine V.zret dX6_isDark_51 (by decide) (Nat.le_of_ble_eq_true rfl) (Nat.le_of_ble_eq_true rfl) ?_
    first | exact b2_ret1 (hd.mpr ⟨by omega, by omega⟩) hp | exact b2_ret0 (fun z => by have := hd.mp z; omega) hp
  · rw [le0] at c21
    refine V.iload_n (i := 1) dX6_isDark_24 rfl rfl ?_
    refine V.iload_n (i := 1) dX6_isDark_25 rfl rfl ?_
    refine V.imul dX6_isDark_26 ?_
    refine V.iconst dX6_isDark_27 ic_4 ?_
    refine V.aload_n (i := 0) dX6_isDark_28 rfl rfl ?_
    refine V.geti dX6_isDark_29 fl_X6_7 rfl ht ?_
    refine V.as _ t0 ?_
    refine V.imul dX6_isDark_32 ?_
    refine V.as _ (pk_mul _ _) ?_
    refine V.aload_n (i := 0) dX6_isDark_33 rfl rfl ?_
    refine V.geti dX6_isDark_34 fl_X6_16 rfl ht ?_
    refine V.as _ t2 ?_
    refine V.imul dX6_isDark_37 ?_
    refine V.as _ (pk_mul _ _) ?_
    refine V.aload_n (i := 0) dX6_isDark_38 rfl rfl ?_
    refine V.geti dX6_isDark_39 fl_X6_19 rfl ht ?_
    refine V.as _ t3 ?_
    refine V.imul dX6_isDark_42 ?_
    refine V.as (nI D) (by rw [pk_mul, hD]) ?_
    refine V.icmp_le (tgt := 50) dX6_isDark_43 rfl (fun c43 => ?_) (fun c43 => ?_)
    · rw [fa_le, e2, toI _ (by omega), e1] at c43
      refine V.iconst dX6_isDark_50 ic_0 ?_
      refine V.zret dX6_isDark_51 (by decide) (Nat.le_of_ble_eq_true rfl) (Nat.le_of_ble_eq_true rfl) ?_
      first | exact b2_ret1 (hd.mpr ⟨by omega, by omega⟩) hp | exact b2_ret0 (fun z => by have := hd.mp z; omega) hp
    · rw [fa_le, e2, toI _ (by omega), e1] at c43
      refine V.iconst dX6_isDark_46 ic_1 ?_
      refine V.goto (tgt := 51) dX6_isDark_47 rfl ?_
      refine V.zret dX6_isDark_51 (by decide) (Nat.le_of_ble_eq_true rfl) (Nat.le_of_ble_eq_true rfl) ?_
      first | exact b2_ret1 (hd.mpr ⟨by omega, by omega⟩) hp | exact b2_ret0 (fun z => by have := hd.mp z; omega) hp
set_option maxRecDepth 100000 in
theorem k_isOfGroup (hR : Rp σ x P G) (hI : Inv G) (l of : Nat) (k : Int32) (hl : l < nLk G) (ho : of < 3) (hp : post (some (.int (b2 (isOf G of k l = true)))) σ) : MX10_isOfGroup E 2 0 0 [.ref (P 6 l), .int (nI of), .int k] σ post := by
  refine MA.of RX10 "isOfGroup" [some (.ref (P 6 l)), some (.int (nI of)), some (.int k), none] rfl rfl rfl (catAll rfl) (Nat.le_of_ble_eq_true rfl) rfl (fun X => ?_)
  have hlk := hI.lk l hl
  have hca := hI.ca _ hlk.2
  have hz : isOf G of k l = true ↔ (of = 2 ∨ (if of = 0 then hadOn G (gN G 14 (gN G 27 l)) 1 (G 29 l) else G 3 (gN G 14 (gN G 27 l))) = k) := by unfold isOf; rw [decide_eq_true_eq]; rfl
  refine V.aload_n (i := 0) dX10_isOfGroup_0 rfl rfl ?_
  refine V.getS dX10_isOfGroup_1 fl_X10_230 rfl (hR.L.at l hl).2 (hR.L.call l hl) ?_
  refine V.getS dX10_isOfGroup_4 fl_X10_164 rfl (hR.C.at _ hlk.2).2 (hR.C.ship _ hlk.2) ?_
  refine V.astore_n3 (by decide) dX10_isOfGroup_7 ?_
  refine V.iload_n (i := 1) dX10_isOfGroup_8 rfl rfl ?_
  refine V.if_ne (tgt := 31) dX10_isOfGroup_9 rfl (fun c9 => ?_) (fun c9 => ?_)
  · rw [show (0 : Int32) = nI 0 from rfl, nI_eq (by omega) (by decide)] at c9
    refine V.iload_n (i := 1) dX10_isOfGroup_31 rfl rfl ?_
    refine V.iconst dX10_isOfGroup_32 ic_2 ?_
    refine V.icmp_eq (tgt := 44) dX10_isOfGroup_33 rfl (fun c33 => ?_) (fun c33 => ?_)
    · rw [nI_eq (by omega) (by decide)] at c33
      refine V.iconst dX10_isOfGroup_44 ic_1 ?_
      refine V.goto (tgt := 49) dX10_isOfGroup_45 rfl ?_
      refine V.zret dX10_isOfGroup_49 (by decide) (Nat.le_of_ble_eq_true rfl) (Nat.le_of_ble_eq_true rfl) ?_
      rw [if_neg c9] at hz; first | exact b2_ret1 (hz.mpr (Or.inl c33)) hp | exact b2_ret1 (hz.mpr (Or.inr (by simpa using c41))) hp | exact b2_ret0 (fun y => by rcases hz.mp y with q | q; exact c33 q; exact c41 q) hp
    · rw [nI_eq (by omega) (by decide)] at c33
      refine V.aload_n (i := 3) dX10_isOfGroup_36 rfl rfl ?_
      refine V.geti dX10_isOfGroup_37 fl_X10_355 rfl (hR.H.at _ hca.2).2 ?_
      refine V.as _ (hR.H.soc _ hca.2) ?_
      refine V.iload_n (i := 2) dX10_isOfGroup_40 rfl rfl ?_
      refine V.icmp_ne (tgt := 48) dX10_isOfGroup_41 rfl (fun c41 => ?_) (fun c41 => ?_)
      · refine V.iconst dX10_isOfGroup_48 ic_0 ?_
        refine V.zret dX10_isOfGroup_49 (by decide) (Nat.le_of_ble_eq_true rfl) (Nat.le_of_ble_eq_true rfl) ?_
        rw [if_neg c9] at hz; first | exact b2_ret1 (hz.mpr (Or.inl c33)) hp | exact b2_ret1 (hz.mpr (Or.inr (by simpa using c41))) hp | exact b2_ret0 (fun y => by rcases hz.mp y with q | q; exact c33 q; exact c41 q) hp
      · refine V.iconst dX10_isOfGroup_44 ic_1 ?_
        refine V.goto (tgt := 49) dX10_isOfGroup_45 rfl ?_
        refine V.zret dX10_isOfGroup_49 (by decide) (Nat.le_of_ble_eq_true rfl) (Nat.le_of_ble_eq_true rfl) ?_
        rw [if_neg c9] at hz; first | exact b2_ret1 (hz.mpr (Or.inl c33)) hp | exact b2_ret1 (hz.mpr (Or.inr (by simpa using c41))) hp | exact b2_ret0 (fun y => by rcases hz.mp y with q | q; exact c33 q; exact c41 q) hp
  · rw [show (0 : Int32) = nI 0 from rfl, nI_eq (by omega) (by decide)] at c9
    refine V.aload_n (i := 3) dX10_isOfGroup_12 rfl rfl ?_
    refine V.iconst dX10_isOfGroup_13 ic_1 ?_
    refine V.aload_n (i := 0) dX10_isOfGroup_14 rfl rfl ?_
    refine V.geti dX10_isOfGroup_15 fl_X10_236 rfl (hR.L.at l hl).2 ?_
    refine V.as _ (hR.L.on_ l hl) ?_
    refine V.cv2D (ci := 5) dX10_isOfGroup_18 lk_X10_115 (by decide) rfl (hR.H.at _ hca.2).2 (k_traitOn hR _ 1 _ hca.2 (by decide) ⟨rfl, rfl⟩) (by decide) (by decide) (Nat.le_of_ble_eq_true rfl) (Nat.le_of_ble_eq_true rfl) (Nat.le_of_ble_eq_true rfl) ?_
    refine V.iload_n (i := 2) dX10_isOfGroup_21 rfl rfl ?_
    refine V.icmp_ne (tgt := 29) dX10_isOfGroup_22 rfl (fun c22 => ?_) (fun c22 => ?_)
    · refine V.iconst dX10_isOfGroup_29 ic_0 ?_
      refine V.zret dX10_isOfGroup_30 (by decide) (Nat.le_of_ble_eq_true rfl) (Nat.le_of_ble_eq_true rfl) ?_
      rw [if_pos (by omega)] at hz; first | exact b2_ret1 (hz.mpr (Or.inr (by simpa using c22))) hp | exact b2_ret0 (fun y => by rcases hz.mp y with q | q; omega; exact c22 q) hp
    · refine V.iconst dX10_isOfGroup_25 ic_1 ?_
      refine V.goto (tgt := 30) dX10_isOfGroup_26 rfl ?_
      refine V.zret dX10_isOfGroup_30 (by decide) (Nat.le_of_ble_eq_true rfl) (Nat.le_of_ble_eq_true rfl) ?_
      rw [if_pos (by omega)] at hz; first | exact b2_ret1 (hz.mpr (Or.inr (by simpa using c22))) hp | exact b2_ret0 (fun y => by rcases hz.mp y with q | q; omega; exact c22 q) hp
end TALLY

