theorem fa_lt64 (a b : Int64) : a < b ↔ a.toInt < b.toInt := Int64.lt_iff_toInt_lt
theorem fa_le64 (a b : Int64) : a ≤ b ↔ a.toInt ≤ b.toInt := Int64.le_iff_toInt_le
theorem fa_eq64 (a b : Int64) : a = b ↔ a.toInt = b.toInt := Int64.toInt_inj.symm
/-- a comparison of two ints taken as longs -/
theorem fb_rngL (x : Int64) : -9223372036854775808 ≤ x.toInt ∧ x.toInt < 9223372036854775808 := by
  have h1 := Int64.le_toInt x
  have h2 := Int64.toInt_lt x
  omega
theorem fb_bmodL {z : Int} (h1 : -9223372036854775808 ≤ z) (h2 : z < 9223372036854775808) : z.bmod (2 ^ 64) = z := by
  rw [Int.bmod_eq_of_le (by omega) (by omega)]
theorem fb_addL {x y : Int64} (h1 : -9223372036854775808 ≤ x.toInt + y.toInt) (h2 : x.toInt + y.toInt < 9223372036854775808) : (x + y).toInt = x.toInt + y.toInt := by
  rw [Int64.toInt_add, fb_bmodL h1 h2]
theorem fb_subL {x y : Int64} (h1 : -9223372036854775808 ≤ x.toInt - y.toInt) (h2 : x.toInt - y.toInt < 9223372036854775808) : (x - y).toInt = x.toInt - y.toInt := by
  rw [Int64.toInt_sub, fb_bmodL h1 h2]
theorem fb_mulL {x y : Int64} (h1 : -9223372036854775808 ≤ x.toInt * y.toInt) (h2 : x.toInt * y.toInt < 9223372036854775808) : (x * y).toInt = x.toInt * y.toInt := by
  rw [Int64.toInt_mul, fb_bmodL h1 h2]
/-! ===== cuts of what is narrow already ===== -/
/-! ===== the model: darkOf, with longs ===== -/
section CALLW
variable {E : VE} {X : VX} {own mn : String} {cc : ByteArray} {nL : Nat} {ret : Option FieldType} {d mc ms : Nat} {Q : State → Prop} {σ σ2 : Sg} {nc ns pc : Nat} {idx : Nat} {H : Heap} {locs : List Loc} {arr : Array Slot}
variable {y : MethodName} {cy : ByteArray} {nLy : Nat} {rety : Option FieldType} {dy my py : Nat} {rest : List Value}
/-- a call of the model's own, the locals kept as they are -/
theorem callQ3W {v1 v2 v3 w : Value} (C : CX E X own mn cc nL ret d mc ms) (hE : eF E = true) (hA : AH E σ H) (hl : ∀ q ∈ locs, (eH E).size ≤ q.base) (hsz : arr.size = nL) (hd : decode cc pc = .ok (.invokevirtual idx, 3)) (hw : clV own idx y cy nLy rety 3) (hcls : RX11 = y.cls) (hM : MA E y cy nLy rety dy my py [.ref (eQ E 48), v1, v2, v3] σ (fun r s => r = some w ∧ s = σ2)) (hdd : dy < d) (hn : nLy ≤ 80) (hm : nc + my ≤ mc) (hs : ns + py ≤ ms) (hr : (rest.map fun v => v.category).sum ≤ 8)
    (kk : ∀ H' locs', AH E σ2 H' → (∀ q ∈ locs', (eH E).size ≤ q.base) → W (xP X) (eL E) (xE X) (xR X) (xS X) (xM X) (xA X) (xB X) (xT X) (xC X) H' locs' (nc + my) (ns + py) Q (F0 (xM X) (pc + 3) arr (w :: rest))) :
    W (xP X) (eL E) (xE X) (xR X) (xS X) (xM X) (xA X) (xB X) (xT X) (xC X) H locs nc ns Q (F0 (xM X) pc arr (v3 :: v2 :: v1 :: .ref (eQ E 48) :: rest)) := by
  obtain ⟨w1, w2, w3, w4, w5, w6⟩ := hw
  have hts := C.2.2.2.2.1
  have hR := C.2.2.2.2.2.2.2.2.2
  have hgood : GoodIn BIG (wsV own idx y.cls y (Cond.code y cy nLy rety :: BIG)) := good_all fun w hw => by
    unfold wsV at hw
    simp only [List.cons_append, List.nil_append, List.mem_cons] at hw
    rcases hw with rfl | rfl | rfl | rfl | rfl | hw
    · exact w1
    · exact w2
    · exact w3
    · exact w4
    · exact w5
    · exact hw
  have hrun := va_runV (R := xR X) (e := xE X) (below := xB X) (meth := xT X) (locs := locs) (cells := nc) (slots := ns) (g := F0 (xM X) pc arr (v3 :: v2 :: v1 :: .ref (eQ E 48) :: rest)) (As := [v1, v2, v3]) (rest := rest) (cc := cc) (nL := nL) ⟨C.1, C.2.1, C.2.2.1, C.2.2.2.1, hts⟩ hM (cwV 3 hts hgood rfl rfl rfl ⟨rfl, w6⟩ ⟨by show dy + 1 ≤ _; omega, by show 8 + (nLy + 11) + 100 * dy ≤ _; omega⟩) ⟨blind_MA, recQ hE hcls H C hA, fun U hU hW => ⟨rfl, by rw [hU]; exact hA, C.2.2.2.2.2.1.warm hW⟩⟩ rfl rfl hsz rfl (lv_room hr) hd ⟨by omega, by omega⟩
  intro T hT Y
  obtain ⟨v, st₀, t, T', L, h0, X', hLf, e1, e2, ⟨r, σ', hv, ⟨hp1, hp2⟩, hA'⟩, stp⟩ := hrun T hT Y
  cases hv
  subst hp1 hp2
  obtain ⟨t2, a1, b1⟩ := kk T'.heap (locs ++ L) (by rw [e1]; exact hA') (fun q hq => by
    rcases List.mem_append.mp hq with h | h
    · exact hl q h
    · exact hLf q h) T' rfl X'
  exact ⟨t2, stp t2 a1, b1⟩
end CALLW
theorem cmp_le {x y : Int64} : lg_cmp x y ≤ 0 ↔ ¬ y < x := by
  unfold lg_cmp
  by_cases h : x > y
  · rw [if_pos h]
    have : y < x := h
    simp [this]
  · rw [if_neg h]
    have : ¬ y < x := h
    by_cases h2 : x = y
    · rw [if_pos h2]; simp [this]
    · rw [if_neg h2]; simp [this]
theorem lN_I {n : Nat} (h : n < 2 ^ 63) : (lN n).toInt = (n : Int) := pk_lT h
theorem darkL {own bad all ab : Nat} (h1 : own ≤ 60) (h2 : bad ≤ 60) (h3 : all ≤ 60) (h4 : ab ≤ 60) :
    darkN own bad all ab = true ↔ ((0 : Int64) < lN ab ∧ (0 : Int64) < lN bad * lN all - lN own * lN ab ∧ 4 * lN own * lN all * lN ab < (lN bad * lN all - lN own * lN ab) * (lN bad * lN all - lN own * lN ab)) := by
  have m1 : bad * all ≤ 3600 := Nat.mul_le_mul h2 h3
  have m2 : own * ab ≤ 3600 := Nat.mul_le_mul h1 h4
  have m3 : 4 * own * all * ab ≤ 864000 := Nat.mul_le_mul (Nat.mul_le_mul (Nat.mul_le_mul (Nat.le_refl 4) h1) h3) h4
  have e1 : lN bad * lN all = lN (bad * all) := lN_mul _ _
  have e2 : lN own * lN ab = lN (own * ab) := lN_mul _ _
  have e3 : 4 * lN own * lN all * lN ab = lN (4 * own * all * ab) := by
    rw [show (4 : Int64) = lN 4 from rfl, lN_mul, lN_mul, lN_mul]
  have e4 : (lN bad * lN all - lN own * lN ab).toInt = (bad * all : Nat) - (own * ab : Nat) := by
    rw [e1, e2, fb_subL, lN_I (by omega), lN_I (by omega)]
    · rw [lN_I (by omega), lN_I (by omega)]; omega
    · rw [lN_I (by omega), lN_I (by omega)]; omega
  unfold darkN
  rw [decide_eq_true_eq, fa_lt64, fa_lt64, fa_lt64, e3, lN_I (by omega), lN_I (by omega), show (0 : Int64).toInt = 0 from rfl]
  generalize hz : lN bad * lN all - lN own * lN ab = z at e4
  generalize bad * all = A at *
  generalize own * ab = B at *
  generalize 4 * own * all * ab = D at *
  have hb : -3600 ≤ z.toInt ∧ z.toInt ≤ 3600 := by omega
  have hsq : -12960000 ≤ z.toInt * z.toInt ∧ z.toInt * z.toInt ≤ 12960000 := by
    have h4 : ((z.toInt.natAbs * z.toInt.natAbs : Nat) : Int) = z.toInt * z.toInt := by rw [Int.natCast_mul]; exact Int.natAbs_mul_self' z.toInt
    have h3 : z.toInt.natAbs * z.toInt.natAbs ≤ 3600 * 3600 := Nat.mul_le_mul (by omega) (by omega)
    omega
  rw [fb_mulL (by omega) (by omega)]
  constructor
  · rintro ⟨q1, q2, q3⟩
    refine ⟨by omega, by omega, ?_⟩
    have : z.toInt = ((A - B : Nat) : Int) := by omega
    rw [this]
    exact_mod_cast q3
  · rintro ⟨q1, q2, q3⟩
    refine ⟨by omega, by omega, ?_⟩
    have : z.toInt = ((A - B : Nat) : Int) := by omega
    rw [this] at q3
    exact_mod_cast q3
section REFD
variable {E : VE} {σ : Sg} {G : GS} {post : Option Value → Sg → Prop}
set_option maxRecDepth 100000 in
set_option maxHeartbeats 4000000 in
theorem c_darkOf (hE : eF E = true) (of : Nat) (k : Int32) (ho : of < 3) (hI : Inv G) (hp : post (some (.int (b2 (darkB G of k = true)))) (wG σ G)) : MX11_darkOf E 3 0 0 [.ref (eQ E 48), .int (nI of), .int k] (wG σ G) post := by
  refine MA.of RX11 "darkOf" [some (.ref (eQ E 48)), some (.int (nI of)), some (.int k), none, none, none, none, none, none, none, none, none, none] rfl rfl rfl (catAll rfl) (Nat.le_of_ble_eq_true rfl) rfl (fun X => ?_)
  intro C H locs arr hA hl hL
  have h60 := hI.lkN.2
  have hcnt : ∀ a b c, counted G a b c ≤ 60 := fun a b c => Nat.le_trans (fb_ct_le _ _) h60
  have hdk := darkL (hcnt of k false) (hcnt of k true) (hcnt 2 (nI 0) false) (hcnt 2 (nI 0) true)
  have b1 := hcnt of k false
  have b2_ := hcnt of k true
  have b3 := hcnt 2 (nI 0) false
  have b4 := hcnt 2 (nI 0) true
  change darkB G of k = true ↔ _ at hdk
  have hv : lv_has arr 13 [(0, .ref (eQ E 48)), (1, .int (nI of)), (2, .int k)] := ⟨hL.1, hL.2.1, fun q hq => by
    simp only [List.mem_cons, List.not_mem_nil, or_false] at hq
    rcases hq with rfl | rfl | rfl
    · exact (hL.2.2 0 _ rfl).1
    · exact (hL.2.2 1 _ rfl).1
    · exact (hL.2.2 2 _ rfl).1⟩
  refine lv_aload_n C.1 C.2.1 dX11_darkOf_0 rfl (lv_at hv 0 rfl) ?_
  refine lv_iload_n C.1 C.2.1 dX11_darkOf_1 rfl (lv_at hv 1 rfl) ?_
  refine lv_iload_n C.1 C.2.1 dX11_darkOf_2 rfl (lv_at hv 2 rfl) ?_
  refine lv_iconst C.1 C.2.1 dX11_darkOf_3 ic_0 ?_
  refine callQ3W C hE hA hl hv.1 dX11_darkOf_4 lk_X11_229 rfl (c_counted hE of k (nI 0) ho hI ⟨rfl, rfl⟩) (by decide) (by decide) (Nat.le_of_ble_eq_true rfl) (Nat.le_of_ble_eq_true rfl) (Nat.le_of_ble_eq_true rfl) (fun H locs hA hl => ?_)
  refine lv_i2l C.1 C.2.1 dX11_darkOf_7 (nI_l (Nat.lt_of_le_of_lt (hcnt _ _ _) (by decide))) ?_
  refine lv_lstore_n (lv' := [(3, .long (lN (counted G of k false))), (0, .ref (eQ E 48)), (1, .int (nI of)), (2, .int k)]) C.1 C.2.1 dX11_darkOf_8 rfl hv (by decide) rfl (fun arr hv => ?_)
  refine lv_aload_n C.1 C.2.1 dX11_darkOf_9 rfl (lv_at hv 1 rfl) ?_
  refine lv_iload_n C.1 C.2.1 dX11_darkOf_10 rfl (lv_at hv 2 rfl) ?_
  refine lv_iload_n C.1 C.2.1 dX11_darkOf_11 rfl (lv_at hv 3 rfl) ?_
  refine lv_iconst C.1 C.2.1 dX11_darkOf_12 ic_1 ?_
  refine callQ3W C hE hA hl hv.1 dX11_darkOf_13 lk_X11_229 rfl (c_counted hE of k (nI 1) ho hI ⟨rfl, rfl⟩) (by decide) (by decide) (Nat.le_of_ble_eq_true rfl) (Nat.le_of_ble_eq_true rfl) (Nat.le_of_ble_eq_true rfl) (fun H locs hA hl => ?_)
  refine lv_i2l C.1 C.2.1 dX11_darkOf_16 (nI_l (Nat.lt_of_le_of_lt (hcnt _ _ _) (by decide))) ?_
  refine lv_lstore (lv' := [(5, .long (lN (counted G of k true))), (3, .long (lN (counted G of k false))), (0, .ref (eQ E 48)), (1, .int (nI of)), (2, .int k)]) C.1 C.2.1 dX11_darkOf_17 hv (by decide) rfl (fun arr hv => ?_)
  refine lv_aload_n C.1 C.2.1 dX11_darkOf_19 rfl (lv_at hv 2 rfl) ?_
  refine lv_iconst C.1 C.2.1 dX11_darkOf_20 ic_2 ?_
  refine lv_iconst C.1 C.2.1 dX11_darkOf_21 ic_0 ?_
  refine lv_iconst C.1 C.2.1 dX11_darkOf_22 ic_0 ?_
  refine callQ3W C hE hA hl hv.1 dX11_darkOf_23 lk_X11_229 rfl (c_counted hE 2 (nI 0) (nI 0) (by decide) hI ⟨rfl, rfl⟩) (by decide) (by decide) (Nat.le_of_ble_eq_true rfl) (Nat.le_of_ble_eq_true rfl) (Nat.le_of_ble_eq_true rfl) (fun H locs hA hl => ?_)
  refine lv_i2l C.1 C.2.1 dX11_darkOf_26 (nI_l (Nat.lt_of_le_of_lt (hcnt _ _ _) (by decide))) ?_
  refine lv_lstore (lv' := [(7, .long (lN (counted G 2 (nI 0) false))), (5, .long (lN (counted G of k true))), (3, .long (lN (counted G of k false))), (0, .ref (eQ E 48)), (1, .int (nI of)), (2, .int k)]) C.1 C.2.1 dX11_darkOf_27 hv (by decide) rfl (fun arr hv => ?_)
  refine lv_aload_n C.1 C.2.1 dX11_darkOf_29 rfl (lv_at hv 3 rfl) ?_
  refine lv_iconst C.1 C.2.1 dX11_darkOf_30 ic_2 ?_
  refine lv_iconst C.1 C.2.1 dX11_darkOf_31 ic_0 ?_
  refine lv_iconst C.1 C.2.1 dX11_darkOf_32 ic_1 ?_
  refine callQ3W C hE hA hl hv.1 dX11_darkOf_33 lk_X11_229 rfl (c_counted hE 2 (nI 0) (nI 1) (by decide) hI ⟨rfl, rfl⟩) (by decide) (by decide) (Nat.le_of_ble_eq_true rfl) (Nat.le_of_ble_eq_true rfl) (Nat.le_of_ble_eq_true rfl) (fun H locs hA hl => ?_)
  refine lv_i2l C.1 C.2.1 dX11_darkOf_36 (nI_l (Nat.lt_of_le_of_lt (hcnt _ _ _) (by decide))) ?_
  refine lv_lstore (lv' := [(9, .long (lN (counted G 2 (nI 0) true))), (7, .long (lN (counted G 2 (nI 0) false))), (5, .long (lN (counted G of k true))), (3, .long (lN (counted G of k false))), (0, .ref (eQ E 48)), (1, .int (nI of)), (2, .int k)]) C.1 C.2.1 dX11_darkOf_37 hv (by decide) rfl (fun arr hv => ?_)
  refine lv_lload C.1 C.2.1 dX11_darkOf_39 (lv_at hv 2 rfl) ?_
  refine lv_lload C.1 C.2.1 dX11_darkOf_41 (lv_at hv 1 rfl) ?_
  refine lv_lmul C.1 C.2.1 dX11_darkOf_43 ?_
  refine lv_lload_n C.1 C.2.1 dX11_darkOf_44 rfl (lv_at hv 3 rfl) ?_
  refine lv_lload C.1 C.2.1 dX11_darkOf_45 (lv_at hv 0 rfl) ?_
  refine lv_lmul C.1 C.2.1 dX11_darkOf_47 ?_
  refine lv_lsub C.1 C.2.1 dX11_darkOf_48 ?_
  refine lv_lstore (lv' := [(11, .long (lN (counted G of k true) * lN (counted G 2 (nI 0) false) - lN (counted G of k false) * lN (counted G 2 (nI 0) true))), (9, .long (lN (counted G 2 (nI 0) true))), (7, .long (lN (counted G 2 (nI 0) false))), (5, .long (lN (counted G of k true))), (3, .long (lN (counted G of k false))), (0, .ref (eQ E 48)), (1, .int (nI of)), (2, .int k)]) C.1 C.2.1 dX11_darkOf_49 hv (by decide) rfl (fun arr hv => ?_)
  have fin : ∀ v, v = b2 (darkB G of k = true) → W (xP X) (eL E) (xE X) (xR X) (xS X) (xM X) (xA X) (xB X) (xT X) (xC X) H locs 0 0 (QM E X post 0 0) (F0 (xM X) 90 arr [.int v]) := by
    intro v hv
    subst hv
    exact W.iret C.1 C.2.1 C.2.2.2.2.2.2.2.2.1 (fun t ht _ => ⟨_, wG σ G, rfl, hp, by rw [ht]; exact hA⟩) hl dX11_darkOf_90 C.2.2.2.2.2.2.1
  refine lv_lload C.1 C.2.1 dX11_darkOf_51 (lv_at hv 1 rfl) ?_
  refine lv_lconst (v := 0) C.1 C.2.1 dX11_darkOf_53 (by decide) ?_
  refine W.lcmp C.1 C.2.1 dX11_darkOf_54 ?_
  refine lv_if_le (tgt := 89) C.1 C.2.1 dX11_darkOf_55 rfl (fun c55 => ?_) (fun c55 => ?_)
  · refine lv_iconst C.1 C.2.1 dX11_darkOf_89 ic_0 ?_
    exact fin _ (b2F (fun z => cmp_le.mp c55 (hdk.mp z).1)).symm
  · refine lv_lload C.1 C.2.1 dX11_darkOf_58 (lv_at hv 0 rfl) ?_
    refine lv_lconst (v := 0) C.1 C.2.1 dX11_darkOf_60 (by decide) ?_
    refine W.lcmp C.1 C.2.1 dX11_darkOf_61 ?_
    refine lv_if_le (tgt := 89) C.1 C.2.1 dX11_darkOf_62 rfl (fun c62 => ?_) (fun c62 => ?_)
    · refine lv_iconst C.1 C.2.1 dX11_darkOf_89 ic_0 ?_
      exact fin _ (b2F (fun z => cmp_le.mp c62 (hdk.mp z).2.1)).symm
    · refine lv_lload C.1 C.2.1 dX11_darkOf_65 (lv_at hv 0 rfl) ?_
      refine lv_lload C.1 C.2.1 dX11_darkOf_67 (lv_at hv 0 rfl) ?_
      refine lv_lmul C.1 C.2.1 dX11_darkOf_69 ?_
      refine lv_ldc2 C.1 C.2.1 C.2.2.2.1 (C.2.2.2.2.1 _ wl_X11_233) dX11_darkOf_70 ?_
      refine lv_lload_n C.1 C.2.1 dX11_darkOf_73 rfl (lv_at hv 4 rfl) ?_
      refine lv_lmul C.1 C.2.1 dX11_darkOf_74 ?_
      refine lv_lload C.1 C.2.1 dX11_darkOf_75 (lv_at hv 2 rfl) ?_
      refine lv_lmul C.1 C.2.1 dX11_darkOf_77 ?_
      refine lv_lload C.1 C.2.1 dX11_darkOf_78 (lv_at hv 1 rfl) ?_
      refine lv_lmul C.1 C.2.1 dX11_darkOf_80 ?_
      refine W.lcmp C.1 C.2.1 dX11_darkOf_81 ?_
      refine lv_if_le (tgt := 89) C.1 C.2.1 dX11_darkOf_82 rfl (fun c82 => ?_) (fun c82 => ?_)
      · refine lv_iconst C.1 C.2.1 dX11_darkOf_89 ic_0 ?_
        exact fin _ (b2F (fun z => cmp_le.mp c82 (hdk.mp z).2.2)).symm
      · refine lv_iconst C.1 C.2.1 dX11_darkOf_85 ic_1 ?_
        refine lv_goto (tgt := 90) C.1 C.2.1 dX11_darkOf_86 rfl ?_
        exact fin _ (b2T (hdk.mpr ⟨Classical.not_not.mp (fun z => c55 (cmp_le.mpr z)), Classical.not_not.mp (fun z => c62 (cmp_le.mpr z)), Classical.not_not.mp (fun z => c82 (cmp_le.mpr z))⟩)).symm
end REFD
