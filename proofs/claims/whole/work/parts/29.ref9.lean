/-! ===== the model: risk ===== -/
theorem latK_in {G : GS} (hI : Inv G) {i : Nat} (hi : i < nSh G) : ∀ l, l ≤ nLk G → 0 ≤ (latK G i l).toInt ∧ (latK G i l).toInt ≤ (G 0 0).toInt
  | 0, _ => hI.built i hi
  | l + 1, h => by
    unfold latK
    split
    · exact hI.lkD l (by omega)
    · exact latK_in hI hi l (by omega)
theorem yrs {G : GS} (hI : Inv G) {i : Nat} (hi : i < nSh G) : (G 0 0 - latK G i (nLk G)) / nI 365 = nI (yearsOf G i) ∧ yearsOf G i < 100 := by
  have h1 := latK_in hI hi (nLk G) (Nat.le_refl _)
  have hd := hI.day
  have e1 : (G 0 0 - latK G i (nLk G)).toInt = (G 0 0).toInt - (latK G i (nLk G)).toInt := subL hd.1 hd.2 h1.1 (by omega)
  obtain ⟨n, -, hn, e2⟩ := tiN (x := G 0 0 - latK G i (nLk G)) (a := 0) (b := 9999) (by omega) (by omega)
  rw [e2, toI n (by omega)] at e1
  have e3 : yearsOf G i = n / 365 := by
    unfold yearsOf
    rw [← e1]
    omega
  rw [e2, pk_div (by omega) (by decide) (by decide), e3]
  exact ⟨rfl, by omega⟩
theorem tank {a : Int32} : (nI 1 = 0 ∨ a = nI 1 ∨ (nI 1 = nI 1 ∧ a = nI 2)) ↔ (a = nI 1 ∨ a = nI 2) := by
  have h : ¬ nI 1 = 0 := by decide
  simp [h]
section REF9
variable {E : VE} {σ : Sg} {G : GS} {post : Option Value → Sg → Prop}
set_option maxRecDepth 100000 in
theorem c_riskOf (hE : eF E = true) (i : Nat) (hi : i < nSh G) (hI : Inv G) (hp : post (some (.int (nI (riskN G i)))) (wG σ G)) : MX11_riskOf E 4 0 0 [.ref (eQ E 48), .int (nI i)] (wG σ G) post := by
  refine MA.of RX11 "riskOf" [some (.ref (eQ E 48)), some (.int (nI i)), none, none, none, none, none, none] rfl rfl rfl (catAll rfl) (Nat.le_of_ble_eq_true rfl) rfl (fun X => ?_)
  have hn := hI.lkN
  have hdy := hI.day
  have h16 := hI.shN.2
  have hbu := hI.built i hi
  have hho := hadO hI hi (G 0 0) (nCh G) (Nat.le_refl _)
  change hadOn G i 2 (G 0 0) = nI (tn (hadOn G i 2 (G 0 0))) ∧ tn (hadOn G i 2 (G 0 0)) < 10 at hho
  have hfl : fltOf G i < 65536 := Nat.lt_of_lt_of_le (flb_lt _ _) (pow_le16 h16)
  have J235 : ∀ v, v = nI (riskB G i + min 4 (holdsF G i) + min 5 (yearsOf G i)) → ∀ l2 l3 l4 l5 l6 l7, V E X RX11 "riskOf" cX11_riskOf 8 (some .int) 4 0 0 (QM E X post 0 0) (wG σ G) 0 0 235 [some (.ref (eQ E 48)), some (.int (nI i)), l2, l3, l4, l5, l6, l7] [.int v] := by
    intro v hv l2 l3 l4 l5 l6 l7
    refine V.istore_n2 (by decide) dX11_riskOf_235 ?_
    refine V.aload_n (i := 0) dX11_riskOf_236 rfl rfl ?_
    refine V.iload_n (i := 1) dX11_riskOf_237 rfl rfl ?_
    refine V.iconst dX11_riskOf_238 ic_1 ?_
    refine V.cq2D hE dX11_riskOf_239 lk_X11_145 rfl (c_isUnder hE i _ (by omega) ⟨rfl, rfl⟩) (by decide) (by decide) (Nat.le_of_ble_eq_true rfl) (Nat.le_of_ble_eq_true rfl) (Nat.le_of_ble_eq_true rfl) ?_
    refine V.ifb_eq (tgt := 251) dX11_riskOf_242 rfl (fun c242 => ?_) (fun c242 => ?_)
    · rw [tank] at c242
      refine V.iload_n (i := 2) dX11_riskOf_251 rfl rfl ?_
      refine V.iret dX11_riskOf_252 (Nat.le_of_ble_eq_true rfl) (Nat.le_of_ble_eq_true rfl) ?_
      refine i_post ?_ hp
      unfold riskN
      rw [hv]
      first | (rw [if_pos c242, pk_mul]) | (rw [if_neg c242, Nat.one_mul])
    · rw [tank] at c242
      refine V.iconst dX11_riskOf_245 ic_2 ?_
      refine V.iload_n (i := 2) dX11_riskOf_246 rfl rfl ?_
      refine V.imul dX11_riskOf_247 ?_
      refine V.goto (tgt := 252) dX11_riskOf_248 rfl ?_
      refine V.iret dX11_riskOf_252 (Nat.le_of_ble_eq_true rfl) (Nat.le_of_ble_eq_true rfl) ?_
      refine i_post ?_ hp
      unfold riskN
      rw [hv]
      first | (rw [if_pos c242, pk_mul]) | (rw [if_neg c242, Nat.one_mul])
  have J219 : ∀ v, v = nI (min 4 (holdsF G i)) → ∀ l3 l4 l5 l7, V E X RX11 "riskOf" cX11_riskOf 8 (some .int) 4 0 0 (QM E X post 0 0) (wG σ G) 0 0 219 [some (.ref (eQ E 48)), some (.int (nI i)), some (.int (nI (riskB G i))), l3, l4, l5, some (.int (nI (yearsOf G i))), l7] [.int v, .int (nI (riskB G i))] := by
    intro v hv l3 l4 l5 l7
    have hy := (yrs hI hi).2
    refine V.iadd dX11_riskOf_219 ?_
    refine V.as (nI (riskB G i + min 4 (holdsF G i))) (by rw [hv, nI_add]) ?_
    refine V.istore_n2 (by decide) dX11_riskOf_220 ?_
    refine V.iload_n (i := 2) dX11_riskOf_221 rfl rfl ?_
    refine V.iload (i := 6) dX11_riskOf_222 rfl ?_
    refine V.iconst dX11_riskOf_224 ic_5 ?_
    refine V.icmp_le (tgt := 232) dX11_riskOf_225 rfl (fun c225 => ?_) (fun c225 => ?_)
    · rw [nI_leI (by omega) (by decide)] at c225
      refine V.iload (i := 6) dX11_riskOf_232 rfl ?_
      refine V.iadd dX11_riskOf_234 ?_
      exact J235 _ (by rw [nI_add]; first | (rw [show min 5 (yearsOf G i) = yearsOf G i by omega]) | (rw [show min 5 (yearsOf G i) = 5 by omega])) _ _ _ _ _ _
    · rw [nI_leI (by omega) (by decide)] at c225
      refine V.iconst dX11_riskOf_228 ic_5 ?_
      refine V.goto (tgt := 234) dX11_riskOf_229 rfl ?_
      refine V.iadd dX11_riskOf_234 ?_
      exact J235 _ (by rw [nI_add]; first | (rw [show min 5 (yearsOf G i) = yearsOf G i by omega]) | (rw [show min 5 (yearsOf G i) = 5 by omega])) _ _ _ _ _ _
  have loop : ∀ m l, l + m = nLk G → ∀ v4 v5, v4 = nI (fb_ct (hfB G i) l) → v5 = latK G i l → ∀ l7, V E X RX11 "riskOf" cX11_riskOf 8 (some .int) 4 0 0 (QM E X post 0 0) (wG σ G) 0 0 96 [some (.ref (eQ E 48)), some (.int (nI i)), some (.int (nI (riskB G i))), some (.int (nI (fltOf G i))), some (.int v4), some (.int v5), some (.int (nI l)), l7] [] := by
    intro m
    induction m with
    | zero =>
      intro l hl v4 v5 hv4 hv5 l7
      have hh : holdsF G i ≤ 60 := Nat.le_trans (fb_ct_le _ _) hn.2
      have e4 : v4 = nI (holdsF G i) := by rw [hv4, holdsF, show l = nLk G by omega]
      rw [show l = nLk G by omega] at hv5
      refine V.iload (i := 6) dX11_riskOf_96 rfl ?_
      refine V.aload_n (i := 0) dX11_riskOf_98 rfl rfl ?_
      refine V.mgeti hE dX11_riskOf_99 fl_X11_131 rfl ?_
      refine V.icmp_geT (tgt := 193) dX11_riskOf_102 rfl (lpT hn.1 (by omega) (by omega)) ?_
      refine V.aload_n (i := 0) dX11_riskOf_193 rfl rfl ?_
      refine V.mgeti hE dX11_riskOf_194 fl_X11_134 rfl ?_
      refine V.iload (i := 5) dX11_riskOf_197 rfl ?_
      refine V.isub dX11_riskOf_199 ?_
      refine V.sipush dX11_riskOf_200 sc_365 ?_
      refine V.idiv dX11_riskOf_203 (by decide) ?_
      refine V.as (nI (yearsOf G i)) (by rw [hv5]; exact (yrs hI hi).1) ?_
      refine V.istore6 (by decide) dX11_riskOf_204 ?_
      refine V.iload_n (i := 2) dX11_riskOf_206 rfl rfl ?_
      refine V.iload (i := 4) dX11_riskOf_207 rfl ?_
      refine V.iconst dX11_riskOf_209 ic_4 ?_
      refine V.icmp_le (tgt := 217) dX11_riskOf_210 rfl (fun c210 => ?_) (fun c210 => ?_)
      · rw [e4, nI_leI (by omega) (by decide)] at c210
        refine V.iload (i := 4) dX11_riskOf_217 rfl ?_
        exact J219 _ (by first | (rw [e4, show min 4 (holdsF G i) = holdsF G i by omega]) | (rw [show min 4 (holdsF G i) = 4 by omega])) _ _ _ _
      · rw [e4, nI_leI (by omega) (by decide)] at c210
        refine V.iconst dX11_riskOf_213 ic_4 ?_
        refine V.goto (tgt := 219) dX11_riskOf_214 rfl ?_
        exact J219 _ (by first | (rw [e4, show min 4 (holdsF G i) = holdsF G i by omega]) | (rw [show min 4 (holdsF G i) = 4 by omega])) _ _ _ _
    | succ m ih =>
      intro l hl v4 v5 hv4 hv5 l7
      have hsl : shipOf G l < nSh G := (hI.ca _ (hI.lk l (by omega)).2).2
      have hld := hI.lkD l (by omega)
      have e156 : (G 29 l ≤ G 0 0 - nI 365) ↔ ¬ inLast G 365 l = true := by
        unfold inLast
        rw [fa_le, subL hdy.1 hdy.2 (by decide) (by decide), toI 365 (by decide)]
        simp
      have J164 : ∀ x, x = nI (if hfB G i l then 1 else 0) → V E X RX11 "riskOf" cX11_riskOf 8 (some .int) 4 0 0 (QM E X post 0 0) (wG σ G) 0 0 164 [some (.ref (eQ E 48)), some (.int (nI i)), some (.int (nI (riskB G i))), some (.int (nI (fltOf G i))), some (.int v4), some (.int v5), some (.int (nI l)), some (.int (nI (shipOf G l)))] [.int x, .int v4] := by
        intro x hx
        refine V.iadd dX11_riskOf_164 ?_
        refine V.istore4 (by decide) dX11_riskOf_165 ?_
        refine V.iload (i := 7) dX11_riskOf_167 rfl ?_
        refine V.iload_n (i := 1) dX11_riskOf_169 rfl rfl ?_
        refine V.icmp_ne (tgt := 183) dX11_riskOf_170 rfl (fun c170 => ?_) (fun c170 => ?_)
        · rw [nI_eq (by omega) (by omega)] at c170
          refine V.iload (i := 5) dX11_riskOf_183 rfl ?_
          refine V.istore5 (by decide) dX11_riskOf_185 ?_
          refine V.iinc6 (by decide) dX11_riskOf_187 (inc1 _) ?_
          refine V.goto (tgt := 96) dX11_riskOf_190 rfl ?_
          exact ih (l + 1) (by omega) _ _ (by rw [hv4, hx, nI_add, fb_ct_succ]) (by rw [latK]; first | rw [if_pos c170] | rw [if_neg c170, hv5]) _
        · rw [nI_eq (by omega) (by omega)] at c170
          refine V.aload_n (i := 0) dX11_riskOf_173 rfl rfl ?_
          refine V.mgeta hE dX11_riskOf_174 fl_X11_74 rfl ?_
          refine V.iload (i := 6) dX11_riskOf_177 rfl ?_
          refine V.miald hE dX11_riskOf_179 rfl rfl rfl (show _ < 60 from (by omega)) ?_
          refine V.goto (tgt := 185) dX11_riskOf_180 rfl ?_
          refine V.istore5 (by decide) dX11_riskOf_185 ?_
          refine V.iinc6 (by decide) dX11_riskOf_187 (inc1 _) ?_
          refine V.goto (tgt := 96) dX11_riskOf_190 rfl ?_
          exact ih (l + 1) (by omega) _ _ (by rw [hv4, hx, nI_add, fb_ct_succ]) (by rw [latK]; first | rw [if_pos c170] | rw [if_neg c170, hv5]) _
      refine V.iload (i := 6) dX11_riskOf_96 rfl ?_
      refine V.aload_n (i := 0) dX11_riskOf_98 rfl rfl ?_
      refine V.mgeti hE dX11_riskOf_99 fl_X11_131 rfl ?_
      refine V.icmp_geF (tgt := 193) dX11_riskOf_102 rfl (lpF hn.1 (by omega) (by omega)) ?_
      refine V.aload_n (i := 0) dX11_riskOf_105 rfl rfl ?_
      refine V.iload (i := 6) dX11_riskOf_106 rfl ?_
      refine V.cq1D hE dX11_riskOf_108 lk_X11_216 rfl (c_shipOf hE l (by omega) hI ⟨rfl, rfl⟩) (by decide) (by decide) (Nat.le_of_ble_eq_true rfl) (Nat.le_of_ble_eq_true rfl) (Nat.le_of_ble_eq_true rfl) ?_
      refine V.istore7 (by decide) dX11_riskOf_111 ?_
      refine V.iload (i := 4) dX11_riskOf_113 rfl ?_
      refine V.iload (i := 7) dX11_riskOf_115 rfl ?_
      refine V.iload_n (i := 1) dX11_riskOf_117 rfl rfl ?_
      refine V.icmp_eq (tgt := 163) dX11_riskOf_118 rfl (fun c118 => ?_) (fun c118 => ?_)
      · rw [nI_eq (by omega) (by omega)] at c118
        refine V.iconst dX11_riskOf_163 ic_0 ?_
        exact J164 _ (by unfold hfB; simp_all)
      · rw [nI_eq (by omega) (by omega)] at c118
        refine V.aload_n (i := 0) dX11_riskOf_121 rfl rfl ?_
        refine V.mgeta hE dX11_riskOf_122 fl_X11_80 rfl ?_
        refine V.iload (i := 6) dX11_riskOf_125 rfl ?_
        refine V.mzald hE dX11_riskOf_127 rfl rfl rfl (show _ < 60 from (by omega)) ?_
        refine V.if_eq (tgt := 163) dX11_riskOf_128 rfl (fun c128 => ?_) (fun c128 => ?_)
        · refine V.iconst dX11_riskOf_163 ic_0 ?_
          exact J164 _ (by unfold hfB; simp_all)
        · refine V.iload_n (i := 3) dX11_riskOf_131 rfl rfl ?_
          refine V.iload (i := 7) dX11_riskOf_132 rfl ?_
          refine V.ishr dX11_riskOf_134 ?_
          refine V.iconst dX11_riskOf_135 ic_1 ?_
          refine V.iand dX11_riskOf_136 ?_
          refine V.as (nI (if (fltOf G i).testBit (shipOf G l) then 1 else 0)) (testBit_and1 (by omega) (by omega)) ?_
          refine V.iconst dX11_riskOf_137 ic_1 ?_
          refine V.icmp_ne (tgt := 163) dX11_riskOf_138 rfl (fun c138 => ?_) (fun c138 => ?_)
          · rw [nI_eq (by split <;> decide) (by decide)] at c138
            refine V.iconst dX11_riskOf_163 ic_0 ?_
            exact J164 _ (by unfold hfB; simp_all)
          · rw [nI_eq (by split <;> decide) (by decide)] at c138
            refine V.aload_n (i := 0) dX11_riskOf_141 rfl rfl ?_
            refine V.mgeta hE dX11_riskOf_142 fl_X11_74 rfl ?_
            refine V.iload (i := 6) dX11_riskOf_145 rfl ?_
            refine V.miald hE dX11_riskOf_147 rfl rfl rfl (show _ < 60 from (by omega)) ?_
            refine V.aload_n (i := 0) dX11_riskOf_148 rfl rfl ?_
            refine V.mgeti hE dX11_riskOf_149 fl_X11_134 rfl ?_
            refine V.sipush dX11_riskOf_152 sc_365 ?_
            refine V.isub dX11_riskOf_155 ?_
            refine V.icmp_le (tgt := 163) dX11_riskOf_156 rfl (fun c156 => ?_) (fun c156 => ?_)
            · rw [e156] at c156
              refine V.iconst dX11_riskOf_163 ic_0 ?_
              exact J164 _ (by unfold hfB; simp_all)
            · rw [e156] at c156
              refine V.iconst dX11_riskOf_159 ic_1 ?_
              refine V.goto (tgt := 164) dX11_riskOf_160 rfl ?_
              exact J164 _ (by unfold hfB; simp_all)
  have J25 : ∀ x, x = nI (if 5475 ≤ (G 0 0).toInt - (G 4 i).toInt then 2 else 0) → V E X RX11 "riskOf" cX11_riskOf 8 (some .int) 4 0 0 (QM E X post 0 0) (wG σ G) 0 0 25 [some (.ref (eQ E 48)), some (.int (nI i)), some (.int (nI 1)), none, none, none, none, none] [.int x, .int (nI 1)] := by
    intro x hx
    refine V.iadd dX11_riskOf_25 ?_
    refine V.as (nI (1 + (if 5475 ≤ (G 0 0).toInt - (G 4 i).toInt then 2 else 0))) (by rw [hx, nI_add]) ?_
    refine V.istore_n2 (by decide) dX11_riskOf_26 ?_
    refine V.iload_n (i := 2) dX11_riskOf_27 rfl rfl ?_
    refine V.iconst dX11_riskOf_28 ic_3 ?_
    refine V.aload_n (i := 0) dX11_riskOf_29 rfl rfl ?_
    refine V.iconst dX11_riskOf_30 ic_0 ?_
    refine V.aload_n (i := 0) dX11_riskOf_31 rfl rfl ?_
    refine V.iload_n (i := 1) dX11_riskOf_32 rfl rfl ?_
    refine V.iconst dX11_riskOf_33 ic_1 ?_
    refine V.aload_n (i := 0) dX11_riskOf_34 rfl rfl ?_
    refine V.mgeti hE dX11_riskOf_35 fl_X11_134 rfl ?_
    refine V.cq3D hE dX11_riskOf_38 lk_X11_155 rfl (c_hadOn hE i 1 _ (by omega) (by decide) hI ⟨rfl, rfl⟩) (by decide) (by decide) (Nat.le_of_ble_eq_true rfl) (Nat.le_of_ble_eq_true rfl) (Nat.le_of_ble_eq_true rfl) ?_
    refine V.cq2D hE dX11_riskOf_41 lk_X11_213 rfl (c_darkOf hE 0 _ (by decide) hI ⟨rfl, rfl⟩) (by decide) (by decide) (Nat.le_of_ble_eq_true rfl) (Nat.le_of_ble_eq_true rfl) (Nat.le_of_ble_eq_true rfl) ?_
    refine V.imul dX11_riskOf_44 ?_
    refine V.as _ (by rw [b2N, pk_mul]) ?_
    refine V.iadd dX11_riskOf_45 ?_
    refine V.as _ (nI_add _ _) ?_
    refine V.istore_n2 (by decide) dX11_riskOf_46 ?_
    refine V.iload_n (i := 2) dX11_riskOf_47 rfl rfl ?_
    refine V.iconst dX11_riskOf_48 ic_2 ?_
    refine V.aload_n (i := 0) dX11_riskOf_49 rfl rfl ?_
    refine V.iconst dX11_riskOf_50 ic_1 ?_
    refine V.aload_n (i := 0) dX11_riskOf_51 rfl rfl ?_
    refine V.mgeta hE dX11_riskOf_52 fl_X11_13 rfl ?_
    refine V.iload_n (i := 1) dX11_riskOf_55 rfl rfl ?_
    refine V.miald hE dX11_riskOf_56 rfl rfl rfl (show _ < 16 from (by omega)) ?_
    refine V.cq2D hE dX11_riskOf_57 lk_X11_213 rfl (c_darkOf hE 1 _ (by decide) hI ⟨rfl, rfl⟩) (by decide) (by decide) (Nat.le_of_ble_eq_true rfl) (Nat.le_of_ble_eq_true rfl) (Nat.le_of_ble_eq_true rfl) ?_
    refine V.imul dX11_riskOf_60 ?_
    refine V.as _ (by rw [b2N, pk_mul]) ?_
    refine V.iadd dX11_riskOf_61 ?_
    refine V.as (nI (riskB G i)) (by rw [nI_add]; rfl) ?_
    refine V.istore_n2 (by decide) dX11_riskOf_62 ?_
    refine V.aload_n (i := 0) dX11_riskOf_63 rfl rfl ?_
    refine V.aload_n (i := 0) dX11_riskOf_64 rfl rfl ?_
    refine V.iload_n (i := 1) dX11_riskOf_65 rfl rfl ?_
    refine V.iconst dX11_riskOf_66 ic_2 ?_
    refine V.aload_n (i := 0) dX11_riskOf_67 rfl rfl ?_
    refine V.mgeti hE dX11_riskOf_68 fl_X11_134 rfl ?_
    refine V.cq3D hE dX11_riskOf_71 lk_X11_155 rfl (c_hadOn hE i 2 _ (by omega) (by decide) hI ⟨rfl, rfl⟩) (by decide) (by decide) (Nat.le_of_ble_eq_true rfl) (Nat.le_of_ble_eq_true rfl) (Nat.le_of_ble_eq_true rfl) ?_
    refine V.as _ hho.1 ?_
    refine V.aload_n (i := 0) dX11_riskOf_74 rfl rfl ?_
    refine V.mgeti hE dX11_riskOf_75 fl_X11_134 rfl ?_
    refine V.cq2D hE dX11_riskOf_78 lk_X11_168 rfl (c_fleetOf hE (tn (hadOn G i 2 (G 0 0))) (G 0 0) hho.2 hI ⟨rfl, rfl⟩) (by decide) (by decide) (Nat.le_of_ble_eq_true rfl) (Nat.le_of_ble_eq_true rfl) (Nat.le_of_ble_eq_true rfl) ?_
    refine V.istore_n3 (by decide) dX11_riskOf_81 ?_
    refine V.iconst dX11_riskOf_82 ic_0 ?_
    refine V.istore4 (by decide) dX11_riskOf_83 ?_
    refine V.aload_n (i := 0) dX11_riskOf_85 rfl rfl ?_
    refine V.mgeta hE dX11_riskOf_86 fl_X11_16 rfl ?_
    refine V.iload_n (i := 1) dX11_riskOf_89 rfl rfl ?_
    refine V.miald hE dX11_riskOf_90 rfl rfl rfl (show _ < 16 from (by omega)) ?_
    refine V.istore5 (by decide) dX11_riskOf_91 ?_
    refine V.iconst dX11_riskOf_93 ic_0 ?_
    refine V.istore6 (by decide) dX11_riskOf_94 ?_
    exact loop (nLk G) 0 (by omega) _ _ rfl rfl _
  refine V.iconst dX11_riskOf_0 ic_1 ?_
  refine V.istore_n2 (by decide) dX11_riskOf_1 ?_
  refine V.iload_n (i := 2) dX11_riskOf_2 rfl rfl ?_
  refine V.aload_n (i := 0) dX11_riskOf_3 rfl rfl ?_
  refine V.mgeti hE dX11_riskOf_4 fl_X11_134 rfl ?_
  refine V.aload_n (i := 0) dX11_riskOf_7 rfl rfl ?_
  refine V.mgeta hE dX11_riskOf_8 fl_X11_16 rfl ?_
  refine V.iload_n (i := 1) dX11_riskOf_11 rfl rfl ?_
  refine V.miald hE dX11_riskOf_12 rfl rfl rfl (show _ < 16 from (by omega)) ?_
  refine V.isub dX11_riskOf_13 ?_
  refine V.sipush dX11_riskOf_14 sc_5475 ?_
  refine V.icmp_lt (tgt := 24) dX11_riskOf_17 rfl (fun c17 => ?_) (fun c17 => ?_)
  · rw [fa_lt, subL hdy.1 hdy.2 hbu.1 (by omega), toI 5475 (by decide)] at c17
    refine V.iconst dX11_riskOf_24 ic_0 ?_
    exact J25 _ (by first | rw [if_pos (by omega)] | rw [if_neg (by omega)])
  · rw [fa_lt, subL hdy.1 hdy.2 hbu.1 (by omega), toI 5475 (by decide)] at c17
    refine V.iconst dX11_riskOf_20 ic_2 ?_
    refine V.goto (tgt := 25) dX11_riskOf_21 rfl ?_
    exact J25 _ (by first | rw [if_pos (by omega)] | rw [if_neg (by omega)])
set_option maxRecDepth 100000 in
theorem c_risk (hE : eF E = true) (s : Int32) (hI : Inv G) (hp : post (some (.int (s_risk G s).1)) (wG σ (s_risk G s).2)) : MX11_risk E 5 0 0 [.ref (eQ E 48), .int s] (wG σ G) post := by
  refine MA.of RX11 "risk" [some (.ref (eQ E 48)), some (.int s)] rfl rfl rfl (catAll rfl) (Nat.le_of_ble_eq_true rfl) rfl (fun X => ?_)
  have h16 := hI.shN.2
  refine V.aload_n (i := 0) dX11_risk_0 rfl rfl ?_
  refine V.iload_n (i := 1) dX11_risk_1 rfl rfl ?_
  refine V.cq1D hE dX11_risk_2 lk_X11_141 rfl (c_isShip hE _ hI ⟨rfl, rfl⟩) (by decide) (by decide) (Nat.le_of_ble_eq_true rfl) (Nat.le_of_ble_eq_true rfl) (Nat.le_of_ble_eq_true rfl) ?_
  refine V.ifb_eq (tgt := 16) dX11_risk_5 rfl (fun c5 => ?_) (fun c5 => ?_)
  · refine V.aload_n (i := 0) dX11_risk_16 rfl rfl ?_
    refine V.iconst dX11_risk_17 ic_1 ?_
    refine V.cq1D hE dX11_risk_18 lk_X11_137 rfl (c_finding hE _ (by decide) ⟨rfl, rfl⟩) (by decide) (by decide) (Nat.le_of_ble_eq_true rfl) (Nat.le_of_ble_eq_true rfl) (Nat.le_of_ble_eq_true rfl) ?_
    refine V.iret dX11_risk_21 (Nat.le_of_ble_eq_true rfl) (Nat.le_of_ble_eq_true rfl) ?_
    first | exact pr_post (if_neg (by omega)) hp | exact pr_post ((if_pos (by omega)).trans (by rw [tn_nI (by omega)])) hp
  · obtain ⟨i, hi, rfl⟩ := idxOf c5
    refine V.aload_n (i := 0) dX11_risk_8 rfl rfl ?_
    refine V.iload_n (i := 1) dX11_risk_9 rfl rfl ?_
    refine V.cq1D hE dX11_risk_10 lk_X11_235 rfl (c_riskOf hE i hi hI ⟨rfl, rfl⟩) (by decide) (by decide) (Nat.le_of_ble_eq_true rfl) (Nat.le_of_ble_eq_true rfl) (Nat.le_of_ble_eq_true rfl) ?_
    refine V.goto (tgt := 21) dX11_risk_13 rfl ?_
    refine V.iret dX11_risk_21 (Nat.le_of_ble_eq_true rfl) (Nat.le_of_ble_eq_true rfl) ?_
    first | exact pr_post (if_neg (by omega)) hp | exact pr_post ((if_pos (by omega)).trans (by rw [tn_nI (by omega)])) hp
end REF9

