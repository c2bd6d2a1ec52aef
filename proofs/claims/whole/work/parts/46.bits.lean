/-! ===== the count of bits ===== -/
theorem and_split (x y : Nat) : x &&& y = 256 * (x / 256 &&& y / 256) + (x % 256 &&& y % 256) := by
  have h1 : (x &&& y) / 256 = x / 256 &&& y / 256 := Nat.and_div_two_pow (n := 8)
  have h2 : (x &&& y) % 256 = x % 256 &&& y % 256 := Nat.and_mod_two_pow (n := 8)
  have := Nat.div_add_mod (x &&& y) 256
  omega
theorem and3 {x0 x1 x2 m : Nat} (h0 : x0 < 256) (h1 : x1 < 256) (h2 : x2 < 256) (hm : m < 256) : (x0 + 256 * x1 + 65536 * x2) &&& (m + 256 * m + 65536 * m + 16777216 * m) = (x0 &&& m) + 256 * (x1 &&& m) + 65536 * (x2 &&& m) := by
  have e0 : (x0 + 256 * x1 + 65536 * x2) / 256 = x1 + 256 * x2 := by omega
  have e1 : (x0 + 256 * x1 + 65536 * x2) % 256 = x0 := by omega
  have e2 : (m + 256 * m + 65536 * m + 16777216 * m) / 256 = m + 256 * m + 65536 * m := by omega
  have e3 : (m + 256 * m + 65536 * m + 16777216 * m) % 256 = m := by omega
  have f0 : (x1 + 256 * x2) / 256 = x2 := by omega
  have f1 : (x1 + 256 * x2) % 256 = x1 := by omega
  have f2 : (m + 256 * m + 65536 * m) / 256 = m + 256 * m := by omega
  have f3 : (m + 256 * m + 65536 * m) % 256 = m := by omega
  have g0 : x2 / 256 = 0 := by omega
  have g1 : x2 % 256 = x2 := by omega
  have g3 : (m + 256 * m) % 256 = m := by omega
  rw [and_split, e0, e1, e2, e3, and_split (x1 + 256 * x2), f0, f1, f2, f3, and_split x2, g0, g1, g3, Nat.zero_and]
  omega
def pcA (b : Nat) : Nat := b - (b / 2 &&& 85)
def pcB (c : Nat) : Nat := (c &&& 51) + (c / 4 &&& 51)
def pcC (d : Nat) : Nat := (d + d / 16) % 16
set_option maxRecDepth 100000 in
theorem pc_1 : ∀ b, b < 256 → (b / 2 &&& 85) ≤ b ∧ (128 + b / 2 &&& 85) = (b / 2 &&& 85) ∧ pcA b < 256 := by decide
set_option maxRecDepth 100000 in
theorem pc_2 : ∀ b, b < 256 → (64 + b / 4 &&& 51) = (b / 4 &&& 51) ∧ (128 + b / 4 &&& 51) = (b / 4 &&& 51) ∧ (192 + b / 4 &&& 51) = (b / 4 &&& 51) := by decide
set_option maxRecDepth 100000 in
theorem pc_3 : ∀ b, b < 256 → (pcB (pcA b) ≤ 68 ∧ pcB (pcA b) % 16 ≤ 4) ∧ pcC (pcB (pcA b)) = fb_ct (fun k => b.testBit k) 8 := by decide
theorem pc_a {b0 b1 b2 : Nat} (h0 : b0 < 256) (h1 : b1 < 256) (h2 : b2 < 256) : (b0 + 256 * b1 + 65536 * b2) / 2 &&& 1431655765 = (b0 / 2 &&& 85) + 256 * (b1 / 2 &&& 85) + 65536 * (b2 / 2 &&& 85) := by
  have e : (b0 + 256 * b1 + 65536 * b2) / 2 = (128 * (b1 % 2) + b0 / 2) + 256 * (128 * (b2 % 2) + b1 / 2) + 65536 * (b2 / 2) := by omega
  rw [e, show (1431655765 : Nat) = 85 + 256 * 85 + 65536 * 85 + 16777216 * 85 from rfl, and3 (by omega) (by omega) (by omega) (by decide)]
  have q : ∀ c b, b < 256 → c < 2 → (128 * c + b / 2 &&& 85) = (b / 2 &&& 85) := by
    intro c b hb hc
    rcases (show c = 0 ∨ c = 1 by omega) with rfl | rfl
    · simp
    · exact (pc_1 b hb).2.1
  rw [q _ _ h0 (by omega), q _ _ h1 (by omega)]
theorem pc_b {b0 b1 b2 : Nat} (h0 : b0 < 256) (h1 : b1 < 256) (h2 : b2 < 256) : (b0 + 256 * b1 + 65536 * b2) / 4 &&& 858993459 = (b0 / 4 &&& 51) + 256 * (b1 / 4 &&& 51) + 65536 * (b2 / 4 &&& 51) := by
  have e : (b0 + 256 * b1 + 65536 * b2) / 4 = (64 * (b1 % 4) + b0 / 4) + 256 * (64 * (b2 % 4) + b1 / 4) + 65536 * (b2 / 4) := by omega
  rw [e, show (858993459 : Nat) = 51 + 256 * 51 + 65536 * 51 + 16777216 * 51 from rfl, and3 (by omega) (by omega) (by omega) (by decide)]
  have q : ∀ c b, b < 256 → c < 4 → (64 * c + b / 4 &&& 51) = (b / 4 &&& 51) := by
    intro c b hb hc
    rcases (show c = 0 ∨ c = 1 ∨ c = 2 ∨ c = 3 by omega) with rfl | rfl | rfl | rfl
    · simp
    · exact (pc_2 b hb).1
    · exact (pc_2 b hb).2.1
    · exact (pc_2 b hb).2.2
  rw [q _ _ h0 (by omega), q _ _ h1 (by omega)]
def bitsN (n k : Nat) : Nat := fb_ct (fun i => n.testBit i) k
theorem bits24 (n : Nat) : bitsN n 24 = bitsN (n % 256) 8 + bitsN (n / 256 % 256) 8 + bitsN (n / 65536) 8 := by
  have e1 : bitsN n 24 = bitsN n 8 + (bitsN (n / 256) 8 + bitsN (n / 65536) 8) := by
    unfold bitsN
    rw [show 24 = 8 + (8 + 8) from rfl, fb_ct_split, fb_ct_split]
    congr 1
    congr 1
    · exact fb_ct_cong (fun k hk => by rw [show (256 : Nat) = 2 ^ 8 from rfl, Nat.testBit_div_two_pow, Nat.add_comm])
    · exact fb_ct_cong (fun k hk => by rw [show (65536 : Nat) = 2 ^ 16 from rfl, Nat.testBit_div_two_pow]; congr 1; omega)
  have m8 : ∀ m, bitsN m 8 = bitsN (m % 256) 8 := fun m => fb_ct_cong (fun k hk => by rw [show (256 : Nat) = 2 ^ 8 from rfl, Nat.testBit_mod_two_pow]; simp [hk])
  rw [e1, m8 n, m8 (n / 256)]
  omega
theorem bits_up {n m k : Nat} (h : n < 2 ^ m) (hk : m ≤ k) : bitsN n k = bitsN n m := by
  unfold bitsN
  rw [show k = m + (k - m) by omega, fb_ct_split]
  have : fb_ct (fun i => n.testBit (m + i)) (k - m) = 0 := fb_ct_zero.mpr (fun i _ => Nat.testBit_lt_two_pow (Nat.lt_of_lt_of_le h (Nat.pow_le_pow_right (by decide) (by omega))))
  omega
theorem bits_cnt10 {n : Nat} (h : n < 1024) : bitsN n 24 = cnt10 n := bits_up (m := 10) h (by decide)
section BITS
variable {E : VE} {σ : Sg} {post : Option Value → Sg → Prop}
set_option maxRecDepth 100000 in
theorem k_bitCount (n : Nat) (hn : n < 16777216) (hp : post (some (.int (nI (bitsN n 24)))) σ) : MJ6_bitCount_0f7a4 E 1 0 0 [.int (nI n)] σ post := by
  refine MA.of RJ6 "bitCount" [some (.int (nI n))] rfl rfl rfl (catAll rfl) (Nat.le_of_ble_eq_true rfl) rfl (fun X => ?_)
  have h0 : n % 256 < 256 := by omega
  have h1 : n / 256 % 256 < 256 := by omega
  have h2 : n / 65536 < 256 := by omega
  have hs : n = n % 256 + 256 * (n / 256 % 256) + 65536 * (n / 65536) := by omega
  have hb := bits24 n
  unfold bitsN at hb
  generalize n % 256 = b0 at *
  generalize n / 256 % 256 = b1 at *
  generalize n / 65536 = b2 at *
  have p0 := pc_1 b0 h0
  have p1 := pc_1 b1 h1
  have p2 := pc_1 b2 h2
  have q0 := pc_3 b0 h0
  have q1 := pc_3 b1 h1
  have q2 := pc_3 b2 h2
  have l0 := fb_ct_le (fun k => b0.testBit k) 8
  have l1 := fb_ct_le (fun k => b1.testBit k) 8
  have l2 := fb_ct_le (fun k => b2.testBit k) 8
  have hA : nI n - nI (n / 2 ^ 1 &&& 1431655765) = nI (pcA b0 + 256 * pcA b1 + 65536 * pcA b2) := by
    rw [hs, show (2 : Nat) ^ 1 = 2 from rfl, pc_a h0 h1 h2, pk_sub (by omega)]
    congr 1
    unfold pcA
    omega
  generalize ha0 : pcA b0 = a0 at *
  generalize ha1 : pcA b1 = a1 at *
  generalize ha2 : pcA b2 = a2 at *
  have hB : nI ((a0 + 256 * a1 + 65536 * a2) &&& 858993459) + nI ((a0 + 256 * a1 + 65536 * a2) / 2 ^ 2 &&& 858993459) = nI (pcB a0 + 256 * pcB a1 + 65536 * pcB a2) := by
    rw [show (2 : Nat) ^ 2 = 4 from rfl, pc_b (by omega) (by omega) (by omega), show (858993459 : Nat) = 51 + 256 * 51 + 65536 * 51 + 16777216 * 51 from rfl, and3 (by omega) (by omega) (by omega) (by decide), nI_add]
    congr 1
    unfold pcB
    omega
  generalize hb0 : pcB a0 = d0 at *
  generalize hb1 : pcB a1 = d1 at *
  generalize hb2 : pcB a2 = d2 at *
  have hC : (d0 + 256 * d1 + 65536 * d2 + (d0 + 256 * d1 + 65536 * d2) / 2 ^ 4) &&& 252645135 = pcC d0 + 256 * pcC d1 + 65536 * pcC d2 := by
    have e : d0 + 256 * d1 + 65536 * d2 + (d0 + 256 * d1 + 65536 * d2) / 2 ^ 4 = (d0 + (d0 / 16 + 16 * (d1 % 16))) + 256 * (d1 + (d1 / 16 + 16 * (d2 % 16))) + 65536 * (d2 + d2 / 16) := by omega
    have q15 : ∀ m, m &&& 15 = m % 16 := fun m => Nat.and_two_pow_sub_one_eq_mod m 4
    rw [e, show (252645135 : Nat) = 15 + 256 * 15 + 65536 * 15 + 16777216 * 15 from rfl, and3 (by omega) (by omega) (by omega) (by decide), q15, q15, q15]
    have r1 : (d0 + (d0 / 16 + 16 * (d1 % 16))) % 16 = pcC d0 := by unfold pcC; omega
    have r2 : (d1 + (d1 / 16 + 16 * (d2 % 16))) % 16 = pcC d1 := by unfold pcC; omega
    rw [r1, r2]
    rfl
  generalize hc0 : pcC d0 = e0 at *
  generalize hc1 : pcC d1 = e1 at *
  generalize hc2 : pcC d2 = e2 at *
  refine V.iload_n (i := 0) dJ6_bitCount_0f7a4_0 rfl rfl ?_
  refine V.iload_n (i := 0) dJ6_bitCount_0f7a4_1 rfl rfl ?_
  refine V.iconst dJ6_bitCount_0f7a4_2 ic_1 ?_
  refine V.iushr dJ6_bitCount_0f7a4_3 ?_
  refine V.as _ (pk_ushrN (by omega) _ 1 rfl) ?_
  refine V.ldcw dJ6_bitCount_0f7a4_4 wv_J6_265 ?_
  refine V.iand dJ6_bitCount_0f7a4_7 ?_
  refine V.as _ (fa_and _ _) ?_
  refine V.isub dJ6_bitCount_0f7a4_8 ?_
  refine V.as _ hA ?_
  refine V.istore_n0 (by decide) dJ6_bitCount_0f7a4_9 ?_
  refine V.iload_n (i := 0) dJ6_bitCount_0f7a4_10 rfl rfl ?_
  refine V.ldcw dJ6_bitCount_0f7a4_11 wv_J6_266 ?_
  refine V.iand dJ6_bitCount_0f7a4_14 ?_
  refine V.as _ (fa_and _ _) ?_
  refine V.iload_n (i := 0) dJ6_bitCount_0f7a4_15 rfl rfl ?_
  refine V.iconst dJ6_bitCount_0f7a4_16 ic_2 ?_
  refine V.iushr dJ6_bitCount_0f7a4_17 ?_
  refine V.as _ (pk_ushrN (by omega) _ 2 rfl) ?_
  refine V.ldcw dJ6_bitCount_0f7a4_18 wv_J6_266 ?_
  refine V.iand dJ6_bitCount_0f7a4_21 ?_
  refine V.as _ (fa_and _ _) ?_
  refine V.iadd dJ6_bitCount_0f7a4_22 ?_
  refine V.as _ hB ?_
  refine V.istore_n0 (by decide) dJ6_bitCount_0f7a4_23 ?_
  refine V.iload_n (i := 0) dJ6_bitCount_0f7a4_24 rfl rfl ?_
  refine V.iload_n (i := 0) dJ6_bitCount_0f7a4_25 rfl rfl ?_
  refine V.iconst dJ6_bitCount_0f7a4_26 ic_4 ?_
  refine V.iushr dJ6_bitCount_0f7a4_27 ?_
  refine V.as _ (pk_ushrN (by omega) _ 4 rfl) ?_
  refine V.iadd dJ6_bitCount_0f7a4_28 ?_
  refine V.as _ (nI_add _ _) ?_
  refine V.ldcw dJ6_bitCount_0f7a4_29 wv_J6_267 ?_
  refine V.iand dJ6_bitCount_0f7a4_32 ?_
  refine V.as _ ((fa_and _ _).trans (congrArg nI hC)) ?_
  refine V.istore_n0 (by decide) dJ6_bitCount_0f7a4_33 ?_
  refine V.iload_n (i := 0) dJ6_bitCount_0f7a4_34 rfl rfl ?_
  refine V.iload_n (i := 0) dJ6_bitCount_0f7a4_35 rfl rfl ?_
  refine V.bipush dJ6_bitCount_0f7a4_36 bc_8 ?_
  refine V.iushr dJ6_bitCount_0f7a4_38 ?_
  refine V.as _ (pk_ushrN (by omega) _ 8 rfl) ?_
  refine V.iadd dJ6_bitCount_0f7a4_39 ?_
  refine V.as _ (nI_add _ _) ?_
  refine V.istore_n0 (by decide) dJ6_bitCount_0f7a4_40 ?_
  refine V.iload_n (i := 0) dJ6_bitCount_0f7a4_41 rfl rfl ?_
  refine V.iload_n (i := 0) dJ6_bitCount_0f7a4_42 rfl rfl ?_
  refine V.bipush dJ6_bitCount_0f7a4_43 bc_16 ?_
  refine V.iushr dJ6_bitCount_0f7a4_45 ?_
  refine V.as _ (pk_ushrN (by omega) _ 16 rfl) ?_
  refine V.iadd dJ6_bitCount_0f7a4_46 ?_
  refine V.as _ (nI_add _ _) ?_
  refine V.istore_n0 (by decide) dJ6_bitCount_0f7a4_47 ?_
  refine V.iload_n (i := 0) dJ6_bitCount_0f7a4_48 rfl rfl ?_
  refine V.bipush dJ6_bitCount_0f7a4_49 bc_63 ?_
  refine V.iand dJ6_bitCount_0f7a4_51 ?_
  refine V.as _ (fa_and _ _) ?_
  refine V.iret dJ6_bitCount_0f7a4_52 (Nat.le_of_ble_eq_true rfl) (Nat.le_of_ble_eq_true rfl) ?_
  refine i_post ?_ hp
  congr 1
  clear hA hB hC
  have y1 : e0 + 256 * e1 + 65536 * e2 + (e0 + 256 * e1 + 65536 * e2) / 2 ^ 8 = (e0 + e1) + 256 * (e1 + e2) + 65536 * e2 := by omega
  have y2 : (e0 + e1) + 256 * (e1 + e2) + 65536 * e2 + ((e0 + e1) + 256 * (e1 + e2) + 65536 * e2) / 2 ^ 16 = (e0 + e1 + e2) + 256 * (e1 + e2) + 65536 * e2 := by omega
  rw [y1, y2]
  rw [show bitsN n 24 = fb_ct (fun k => b0.testBit k) 8 + fb_ct (fun k => b1.testBit k) 8 + fb_ct (fun k => b2.testBit k) 8 from hb, show (63 : Nat) = 2 ^ 6 - 1 from rfl, Nat.and_two_pow_sub_one_eq_mod]
  omega
end BITS

