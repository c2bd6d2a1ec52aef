/-! ===== the class: treaties' words, doubles, draws, weeks of rest ===== -/
section CLS7
variable {E : VE} {σ : Sg} {G : GS} {x : Nat} {P : PT} {post : Option Value → Sg → Prop}
theorem k_bitCount10 (n : Nat) (hn : n < 1024) (hp : post (some (.int (nI (cnt10 n)))) σ) : MJ6_bitCount_0f7a4 E 1 0 0 [.int (nI n)] σ post := k_bitCount n (by omega) (by rw [bits_cnt10 hn]; exact hp)
theorem k_treatyInForceN (hR : Rp σ x P G) (hI : Inv G) (on : Int32) (hf : frc G on = none) (hp : post (some .null) σ) : MX10_treatyInForce E 1 0 0 [.ref x, .int on] σ post := k_treatyInForce hR hI on (by rw [hf]; exact hp)
theorem k_treatyInForceY (hR : Rp σ x P G) (hI : Inv G) (on : Int32) {t : Nat} (hf : frc G on = some t) (hp : post (some (.ref (P 7 t))) σ) : MX10_treatyInForce E 1 0 0 [.ref x, .int on] σ post := k_treatyInForce hR hI on (by rw [hf]; exact hp)
set_option maxRecDepth 100000 in
theorem k_says (hR : Rp σ x P G) (hI : Inv G) (on w : Int32) (hp : PU x σ (s_says G on w) post) : MX10_says E 2 0 0 [.ref x, .int on, .int w] σ post := by
  refine MA.of RX10 "says" [some (.ref x), some (.int on), some (.int w), none, none, none] rfl rfl rfl (catAll rfl) (Nat.le_of_ble_eq_true rfl) rfl (fun X => ?_)
  by_cases hw : w.toInt = 0 ∨ (10 ≤ w.toInt ∧ w.toInt ≤ 19) ∨ (20 ≤ w.toInt ∧ w.toInt ≤ 23)
  · obtain ⟨j, hj, rfl⟩ := idxOf (x := w) (n := 24) (by omega)
    rw [toI j (by omega)] at hw
    cases hf : frc G on with
    | none =>
      refine V.iload_n (i := 2) dX10_says_0 rfl rfl ?_
      refine V.bipush dX10_says_1 bc_10 ?_
      refine V.icmp_lt (tgt := 16) dX10_says_3 rfl (fun c3 => ?_) (fun c3 => ?_)
      · rw [nI_ltI (by omega) (by decide)] at c3
        refine V.iconst dX10_says_16 ic_0 ?_
        refine V.istore_n3 (by decide) dX10_says_17 ?_
        refine V.iload_n (i := 2) dX10_says_18 rfl rfl ?_
        refine V.bipush dX10_says_19 bc_20 ?_
        refine V.icmp_lt (tgt := 34) dX10_says_21 rfl (fun c21 => ?_) (fun c21 => ?_)
        · rw [nI_ltI (by omega) (by decide)] at c21
          refine V.iconst dX10_says_34 ic_0 ?_
          refine V.istore4 (by decide) dX10_says_35 ?_
          refine V.iload_n (i := 1) dX10_says_37 rfl rfl ?_
          refine V.sipush dX10_says_38 sc_10000 ?_
          refine V.cs2D dX10_says_41 lk_X10_96 (k_isBelowN _ 10000 (by decide) ⟨rfl, rfl⟩) (by decide) (by decide) (Nat.le_of_ble_eq_true rfl) (Nat.le_of_ble_eq_true rfl) (Nat.le_of_ble_eq_true rfl) ?_
          refine V.ifb_eq (tgt := 60) dX10_says_44 rfl (fun c44 => ?_) (fun c44 => ?_)
          · refine V.aload_n (i := 0) dX10_says_60 rfl rfl ?_
            refine V.iconst dX10_says_61 ic_1 ?_
            refine V.cv1D (ci := 10) dX10_says_62 lk_X10_82 (by decide) rfl hR.F.x (k_finding hR _ (by decide) ⟨rfl, rfl⟩) (by decide) (by decide) (Nat.le_of_ble_eq_true rfl) (Nat.le_of_ble_eq_true rfl) (Nat.le_of_ble_eq_true rfl) ?_
            refine V.iret dX10_says_65 (Nat.le_of_ble_eq_true rfl) (Nat.le_of_ble_eq_true rfl) ?_
            first | exact puF hp (if_neg (fun z => by have := z.1; omega)) hR rfl | exact absurd c52 (by decide) | exact absurd c57 (by decide) | (exfalso; omega)
          · refine V.iload_n (i := 2) dX10_says_47 rfl rfl ?_
            refine V.if_eq (tgt := 66) dX10_says_48 rfl (fun c48 => ?_) (fun c48 => ?_)
            · rw [show (0 : Int32) = nI 0 from rfl, nI_eq (by omega) (by decide)] at c48
              refine V.aload_n (i := 0) dX10_says_66 rfl rfl ?_
              refine V.iload_n (i := 1) dX10_says_67 rfl rfl ?_
              refine V.cv1D (ci := 10) dX10_says_68 lk_X10_197 (by decide) rfl hR.F.x (k_treatyInForceN hR hI on hf ⟨rfl, rfl⟩) (by decide) (by decide) (Nat.le_of_ble_eq_true rfl) (Nat.le_of_ble_eq_true rfl) (Nat.le_of_ble_eq_true rfl) ?_
              refine V.astore5N (by decide) dX10_says_71 ?_
              refine V.aloadN (i := 5) dX10_says_73 rfl ?_
              refine V.ifnonnullN dX10_says_75 ?_
              refine V.aload_n (i := 0) dX10_says_78 rfl rfl ?_
              refine V.iconst dX10_says_79 ic_2 ?_
              refine V.cv1D (ci := 10) dX10_says_80 lk_X10_82 (by decide) rfl hR.F.x (k_finding hR _ (by decide) ⟨rfl, rfl⟩) (by decide) (by decide) (Nat.le_of_ble_eq_true rfl) (Nat.le_of_ble_eq_true rfl) (Nat.le_of_ble_eq_true rfl) ?_
              refine V.iret dX10_says_83 (Nat.le_of_ble_eq_true rfl) (Nat.le_of_ble_eq_true rfl) ?_
              exact puF hp (by unfold s_says; rw [if_pos ⟨by omega, by rw [toI j (by omega)]; exact hw⟩, hf]) hR rfl
            · rw [show (0 : Int32) = nI 0 from rfl, nI_eq (by omega) (by decide)] at c48
              refine V.iload_n (i := 3) dX10_says_51 rfl rfl ?_
              refine V.if_ne (tgt := 66) dX10_says_52 rfl (fun c52 => ?_) (fun c52 => ?_)
              · refine V.aload_n (i := 0) dX10_says_66 rfl rfl ?_
                refine V.iload_n (i := 1) dX10_says_67 rfl rfl ?_
                refine V.cv1D (ci := 10) dX10_says_68 lk_X10_197 (by decide) rfl hR.F.x (k_treatyInForceN hR hI on hf ⟨rfl, rfl⟩) (by decide) (by decide) (Nat.le_of_ble_eq_true rfl) (Nat.le_of_ble_eq_true rfl) (Nat.le_of_ble_eq_true rfl) ?_
                refine V.astore5N (by decide) dX10_says_71 ?_
                refine V.aloadN (i := 5) dX10_says_73 rfl ?_
                refine V.ifnonnullN dX10_says_75 ?_
                refine V.aload_n (i := 0) dX10_says_78 rfl rfl ?_
                refine V.iconst dX10_says_79 ic_2 ?_
                refine V.cv1D (ci := 10) dX10_says_80 lk_X10_82 (by decide) rfl hR.F.x (k_finding hR _ (by decide) ⟨rfl, rfl⟩) (by decide) (by decide) (Nat.le_of_ble_eq_true rfl) (Nat.le_of_ble_eq_true rfl) (Nat.le_of_ble_eq_true rfl) ?_
                refine V.iret dX10_says_83 (Nat.le_of_ble_eq_true rfl) (Nat.le_of_ble_eq_true rfl) ?_
                exact puF hp (by unfold s_says; rw [if_pos ⟨by omega, by rw [toI j (by omega)]; exact hw⟩, hf]) hR rfl
              · refine V.iload (i := 4) dX10_says_55 rfl ?_
                refine V.if_ne (tgt := 66) dX10_says_57 rfl (fun c57 => ?_) (fun c57 => ?_)
                · refine V.aload_n (i := 0) dX10_says_66 rfl rfl ?_
                  refine V.iload_n (i := 1) dX10_says_67 rfl rfl ?_
                  refine V.cv1D (ci := 10) dX10_says_68 lk_X10_197 (by decide) rfl hR.F.x (k_treatyInForceN hR hI on hf ⟨rfl, rfl⟩) (by decide) (by decide) (Nat.le_of_ble_eq_true rfl) (Nat.le_of_ble_eq_true rfl) (Nat.le_of_ble_eq_true rfl) ?_
                  refine V.astore5N (by decide) dX10_says_71 ?_
                  refine V.aloadN (i := 5) dX10_says_73 rfl ?_
                  refine V.ifnonnullN dX10_says_75 ?_
                  refine V.aload_n (i := 0) dX10_says_78 rfl rfl ?_
                  refine V.iconst dX10_says_79 ic_2 ?_
                  refine V.cv1D (ci := 10) dX10_says_80 lk_X10_82 (by decide) rfl hR.F.x (k_finding hR _ (by decide) ⟨rfl, rfl⟩) (by decide) (by decide) (Nat.le_of_ble_eq_true rfl) (Nat.le_of_ble_eq_true rfl) (Nat.le_of_ble_eq_true rfl) ?_
                  refine V.iret dX10_says_83 (Nat.le_of_ble_eq_true rfl) (Nat.le_of_ble_eq_true rfl) ?_
                  exact puF hp (by unfold s_says; rw [if_pos ⟨by omega, by rw [toI j (by omega)]; exact hw⟩, hf]) hR rfl
                · refine V.aload_n (i := 0) dX10_says_60 rfl rfl ?_
                  refine V.iconst dX10_says_61 ic_1 ?_
                  refine V.cv1D (ci := 10) dX10_says_62 lk_X10_82 (by decide) rfl hR.F.x (k_finding hR _ (by decide) ⟨rfl, rfl⟩) (by decide) (by decide) (Nat.le_of_ble_eq_true rfl) (Nat.le_of_ble_eq_true rfl) (Nat.le_of_ble_eq_true rfl) ?_
                  refine V.iret dX10_says_65 (Nat.le_of_ble_eq_true rfl) (Nat.le_of_ble_eq_true rfl) ?_
                  first | exact puF hp (if_neg (fun z => by have := z.1; omega)) hR rfl | exact absurd c52 (by decide) | exact absurd c57 (by decide) | (exfalso; omega)
        · rw [nI_ltI (by omega) (by decide)] at c21
          refine V.iload_n (i := 2) dX10_says_24 rfl rfl ?_
          refine V.bipush dX10_says_25 bc_24 ?_
          refine V.icmp_ge (tgt := 34) dX10_says_27 rfl (fun c27 => ?_) (fun c27 => ?_)
          · rw [nI_leI (by decide) (by omega)] at c27
            refine V.iconst dX10_says_34 ic_0 ?_
            refine V.istore4 (by decide) dX10_says_35 ?_
            refine V.iload_n (i := 1) dX10_says_37 rfl rfl ?_
            refine V.sipush dX10_says_38 sc_10000 ?_
            refine V.cs2D dX10_says_41 lk_X10_96 (k_isBelowN _ 10000 (by decide) ⟨rfl, rfl⟩) (by decide) (by decide) (Nat.le_of_ble_eq_true rfl) (Nat.le_of_ble_eq_true rfl) (Nat.le_of_ble_eq_true rfl) ?_
            refine V.ifb_eq (tgt := 60) dX10_says_44 rfl (fun c44 => ?_) (fun c44 => ?_)
            · refine V.aload_n (i := 0) dX10_says_60 rfl rfl ?_
              refine V.iconst dX10_says_61 ic_1 ?_
              refine V.cv1D (ci := 10) dX10_says_62 lk_X10_82 (by decide) rfl hR.F.x (k_finding hR _ (by decide) ⟨rfl, rfl⟩) (by decide) (by decide) (Nat.le_of_ble_eq_true rfl) (Nat.le_of_ble_eq_true rfl) (Nat.le_of_ble_eq_true rfl) ?_
              refine V.iret dX10_says_65 (Nat.le_of_ble_eq_true rfl) (Nat.le_of_ble_eq_true rfl) ?_
              first | exact puF hp (if_neg (fun z => by have := z.1; omega)) hR rfl | exact absurd c52 (by decide) | exact absurd c57 (by decide) | (exfalso; omega)
            · refine V.iload_n (i := 2) dX10_says_47 rfl rfl ?_
              refine V.if_eq (tgt := 66) dX10_says_48 rfl (fun c48 => ?_) (fun c48 => ?_)
              · rw [show (0 : Int32) = nI 0 from rfl, nI_eq (by omega) (by decide)] at c48
                refine V.aload_n (i := 0) dX10_says_66 rfl rfl ?_
                refine V.iload_n (i := 1) dX10_says_67 rfl rfl ?_
                refine V.cv1D (ci := 10) dX10_says_68 lk_X10_197 (by decide) rfl hR.F.x (k_treatyInForceN hR hI on hf ⟨rfl, rfl⟩) (by decide) (by decide) (Nat.le_of_ble_eq_true rfl) (Nat.le_of_ble_eq_true rfl) (Nat.le_of_ble_eq_true rfl) ?_
                refine V.astore5N (by decide) dX10_says_71 ?_
                refine V.aloadN (i := 5) dX10_says_73 rfl ?_
                refine V.ifnonnullN dX10_says_75 ?_
                refine V.aload_n (i := 0) dX10_says_78 rfl rfl ?_
                refine V.iconst dX10_says_79 ic_2 ?_
                refine V.cv1D (ci := 10) dX10_says_80 lk_X10_82 (by decide) rfl hR.F.x (k_finding hR _ (by decide) ⟨rfl, rfl⟩) (by decide) (by decide) (Nat.le_of_ble_eq_true rfl) (Nat.le_of_ble_eq_true rfl) (Nat.le_of_ble_eq_true rfl) ?_
                refine V.iret dX10_says_83 (Nat.le_of_ble_eq_true rfl) (Nat.le_of_ble_eq_true rfl) ?_
                exact puF hp (by unfold s_says; rw [if_pos ⟨by omega, by rw [toI j (by omega)]; exact hw⟩, hf]) hR rfl
              · rw [show (0 : Int32) = nI 0 from rfl, nI_eq (by omega) (by decide)] at c48
                refine V.iload_n (i := 3) dX10_says_51 rfl rfl ?_
                refine V.if_ne (tgt := 66) dX10_says_52 rfl (fun c52 => ?_) (fun c52 => ?_)
                · refine V.aload_n (i := 0) dX10_says_66 rfl rfl ?_
                  refine V.iload_n (i := 1) dX10_says_67 rfl rfl ?_
                  refine V.cv1D (ci := 10) dX10_says_68 lk_X10_197 (by decide) rfl hR.F.x (k_treatyInForceN hR hI on hf ⟨rfl, rfl⟩) (by decide) (by decide) (Nat.le_of_ble_eq_true rfl) (Nat.le_of_ble_eq_true rfl) (Nat.le_of_ble_eq_true rfl) ?_
                  refine V.astore5N (by decide) dX10_says_71 ?_
                  refine V.aloadN (i := 5) dX10_says_73 rfl ?_
                  refine V.ifnonnullN dX10_says_75 ?_
                  refine V.aload_n (i := 0) dX10_says_78 rfl rfl ?_
                  refine V.iconst dX10_says_79 ic_2 ?_
                  refine V.cv1D (ci := 10) dX10_says_80 lk_X10_82 (by decide) rfl hR.F.x (k_finding hR _ (by decide) ⟨rfl, rfl⟩) (by decide) (by decide) (Nat.le_of_ble_eq_true rfl) (Nat.le_of_ble_eq_true rfl) (Nat.le_of_ble_eq_true rfl) ?_
                  refine V.iret dX10_says_83 (Nat.le_of_ble_eq_true rfl) (Nat.le_of_ble_eq_true rfl) ?_
                  exact puF hp (by unfold s_says; rw [if_pos ⟨by omega, by rw [toI j (by omega)]; exact hw⟩, hf]) hR rfl
                · refine V.iload (i := 4) dX10_says_55 rfl ?_
                  refine V.if_ne (tgt := 66) dX10_says_57 rfl (fun c57 => ?_) (fun c57 => ?_)
                  · refine V.aload_n (i := 0) dX10_says_66 rfl rfl ?_
                    refine V.iload_n (i := 1) dX10_says_67 rfl rfl ?_
                    refine V.cv1D (ci := 10) dX10_says_68 lk_X10_197 (by decide) rfl hR.F.x (k_treatyInForceN hR hI on hf ⟨rfl, rfl⟩) (by decide) (by decide) (Nat.le_of_ble_eq_true rfl) (Nat.le_of_ble_eq_true rfl) (Nat.le_of_ble_eq_true rfl) ?_
                    refine V.astore5N (by decide) dX10_says_71 ?_
                    refine V.aloadN (i := 5) dX10_says_73 rfl ?_
                    refine V.ifnonnullN dX10_says_75 ?_
                    refine V.aload_n (i := 0) dX10_says_78 rfl rfl ?_
                    refine V.iconst dX10_says_79 ic_2 ?_
                    refine V.cv1D (ci := 10) dX10_says_80 lk_X10_82 (by decide) rfl hR.F.x (k_finding hR _ (by decide) ⟨rfl, rfl⟩) (by decide) (by decide) (Nat.le_of_ble_eq_true rfl) (Nat.le_of_ble_eq_true rfl) (Nat.le_of_ble_eq_true rfl) ?_
                    refine V.iret dX10_says_83 (Nat.le_of_ble_eq_true rfl) (Nat.le_of_ble_eq_true rfl) ?_
                    exact puF hp (by unfold s_says; rw [if_pos ⟨by omega, by rw [toI j (by omega)]; exact hw⟩, hf]) hR rfl
                  · refine V.aload_n (i := 0) dX10_says_60 rfl rfl ?_
                    refine V.iconst dX10_says_61 ic_1 ?_
                    refine V.cv1D (ci := 10) dX10_says_62 lk_X10_82 (by decide) rfl hR.F.x (k_finding hR _ (by decide) ⟨rfl, rfl⟩) (by decide) (by decide) (Nat.le_of_ble_eq_true rfl) (Nat.le_of_ble_eq_true rfl) (Nat.le_of_ble_eq_true rfl) ?_
                    refine V.iret dX10_says_65 (Nat.le_of_ble_eq_true rfl) (Nat.le_of_ble_eq_true rfl) ?_
                    first | exact puF hp (if_neg (fun z => by have := z.1; omega)) hR rfl | exact absurd c52 (by decide) | exact absurd c57 (by decide) | (exfalso; omega)
          · rw [nI_leI (by decide) (by omega)] at c27
            refine V.iconst dX10_says_30 ic_1 ?_
            refine V.goto (tgt := 35) dX10_says_31 rfl ?_
            refine V.istore4 (by decide) dX10_says_35 ?_
            refine V.iload_n (i := 1) dX10_says_37 rfl rfl ?_
            refine V.sipush dX10_says_38 sc_10000 ?_
            refine V.cs2D dX10_says_41 lk_X10_96 (k_isBelowN _ 10000 (by decide) ⟨rfl, rfl⟩) (by decide) (by decide) (Nat.le_of_ble_eq_true rfl) (Nat.le_of_ble_eq_true rfl) (Nat.le_of_ble_eq_true rfl) ?_
            refine V.ifb_eq (tgt := 60) dX10_says_44 rfl (fun c44 => ?_) (fun c44 => ?_)
            · refine V.aload_n (i := 0) dX10_says_60 rfl rfl ?_
              refine V.iconst dX10_says_61 ic_1 ?_
              refine V.cv1D (ci := 10) dX10_says_62 lk_X10_82 (by decide) rfl hR.F.x (k_finding hR _ (by decide) ⟨rfl, rfl⟩) (by decide) (by decide) (Nat.le_of_ble_eq_true rfl) (Nat.le_of_ble_eq_true rfl) (Nat.le_of_ble_eq_true rfl) ?_
              refine V.iret dX10_says_65 (Nat.le_of_ble_eq_true rfl) (Nat.le_of_ble_eq_true rfl) ?_
              first | exact puF hp (if_neg (fun z => by have := z.1; omega)) hR rfl | exact absurd c52 (by decide) | exact absurd c57 (by decide) | (exfalso; omega)
            · refine V.iload_n (i := 2) dX10_says_47 rfl rfl ?_
              refine V.if_eq (tgt := 66) dX10_says_48 rfl (fun c48 => ?_) (fun c48 => ?_)
              · rw [show (0 : Int32) = nI 0 from rfl, nI_eq (by omega) (by decide)] at c48
                refine V.aload_n (i := 0) dX10_says_66 rfl rfl ?_
                refine V.iload_n (i := 1) dX10_says_67 rfl rfl ?_
                refine V.cv1D (ci := 10) dX10_says_68 lk_X10_197 (by decide) rfl hR.F.x (k_treatyInForceN hR hI on hf ⟨rfl, rfl⟩) (by decide) (by decide) (Nat.le_of_ble_eq_true rfl) (Nat.le_of_ble_eq_true rfl) (Nat.le_of_ble_eq_true rfl) ?_
                refine V.astore5N (by decide) dX10_says_71 ?_
                refine V.aloadN (i := 5) dX10_says_73 rfl ?_
                refine V.ifnonnullN dX10_says_75 ?_
                refine V.aload_n (i := 0) dX10_says_78 rfl rfl ?_
                refine V.iconst dX10_says_79 ic_2 ?_
                refine V.cv1D (ci := 10) dX10_says_80 lk_X10_82 (by decide) rfl hR.F.x (k_finding hR _ (by decide) ⟨rfl, rfl⟩) (by decide) (by decide) (Nat.le_of_ble_eq_true rfl) (Nat.le_of_ble_eq_true rfl) (Nat.le_of_ble_eq_true rfl) ?_
                refine V.iret dX10_says_83 (Nat.le_of_ble_eq_true rfl) (Nat.le_of_ble_eq_true rfl) ?_
                exact puF hp (by unfold s_says; rw [if_pos ⟨by omega, by rw [toI j (by omega)]; exact hw⟩, hf]) hR rfl
              · rw [show (0 : Int32) = nI 0 from rfl, nI_eq (by omega) (by decide)] at c48
                refine V.iload_n (i := 3) dX10_says_51 rfl rfl ?_
                refine V.if_ne (tgt := 66) dX10_says_52 rfl (fun c52 => ?_) (fun c52 => ?_)
                · refine V.aload_n (i := 0) dX10_says_66 rfl rfl ?_
                  refine V.iload_n (i := 1) dX10_says_67 rfl rfl ?_
                  refine V.cv1D (ci := 10) dX10_says_68 lk_X10_197 (by decide) rfl hR.F.x (k_treatyInForceN hR hI on hf ⟨rfl, rfl⟩) (by decide) (by decide) (Nat.le_of_ble_eq_true rfl) (Nat.le_of_ble_eq_true rfl) (Nat.le_of_ble_eq_true rfl) ?_
                  refine V.astore5N (by decide) dX10_says_71 ?_
                  refine V.aloadN (i := 5) dX10_says_73 rfl ?_
                  refine V.ifnonnullN dX10_says_75 ?_
                  refine V.aload_n (i := 0) dX10_says_78 rfl rfl ?_
                  refine V.iconst dX10_says_79 ic_2 ?_
                  refine V.cv1D (ci := 10) dX10_says_80 lk_X10_82 (by decide) rfl hR.F.x (k_finding hR _ (by decide) ⟨rfl, rfl⟩) (by decide) (by decide) (Nat.le_of_ble_eq_true rfl) (Nat.le_of_ble_eq_true rfl) (Nat.le_of_ble_eq_true rfl) ?_
                  refine V.iret dX10_says_83 (Nat.le_of_ble_eq_true rfl) (Nat.le_of_ble_eq_true rfl) ?_
                  exact puF hp (by unfold s_says; rw [if_pos ⟨by omega, by rw [toI j (by omega)]; exact hw⟩, hf]) hR rfl
                · refine V.iload (i := 4) dX10_says_55 rfl ?_
                  refine V.if_ne (tgt := 66) dX10_says_57 rfl (fun c57 => ?_) (fun c57 => ?_)
                  · refine V.aload_n (i := 0) dX10_says_66 rfl rfl ?_
                    refine V.iload_n (i := 1) dX10_says_67 rfl rfl ?_
                    refine V.cv1D (ci := 10) dX10_says_68 lk_X10_197 (by decide) rfl hR.F.x (k_treatyInForceN hR hI on hf ⟨rfl, rfl⟩) (by decide) (by decide) (Nat.le_of_ble_eq_true rfl) (Nat.le_of_ble_eq_true rfl) (Nat.le_of_ble_eq_true rfl) ?_
                    refine V.astore5N (by decide) dX10_says_71 ?_
                    refine V.aloadN (i := 5) dX10_says_73 rfl ?_
                    refine V.ifnonnullN dX10_says_75 ?_
                    refine V.aload_n (i := 0) dX10_says_78 rfl rfl ?_
                    refine V.iconst dX10_says_79 ic_2 ?_
                    refine V.cv1D (ci := 10) dX10_says_80 lk_X10_82 (by decide) rfl hR.F.x (k_finding hR _ (by decide) ⟨rfl, rfl⟩) (by decide) (by decide) (Nat.le_of_ble_eq_true rfl) (Nat.le_of_ble_eq_true rfl) (Nat.le_of_ble_eq_true rfl) ?_
                    refine V.iret dX10_says_83 (Nat.le_of_ble_eq_true rfl) (Nat.le_of_ble_eq_true rfl) ?_
                    exact puF hp (by unfold s_says; rw [if_pos ⟨by omega, by rw [toI j (by omega)]; exact hw⟩, hf]) hR rfl
                  · refine V.aload_n (i := 0) dX10_says_60 rfl rfl ?_
                    refine V.iconst dX10_says_61 ic_1 ?_
                    refine V.cv1D (ci := 10) dX10_says_62 lk_X10_82 (by decide) rfl hR.F.x (k_finding hR _ (by decide) ⟨rfl, rfl⟩) (by decide) (by decide) (Nat.le_of_ble_eq_true rfl) (Nat.le_of_ble_eq_true rfl) (Nat.le_of_ble_eq_true rfl) ?_
                    refine V.iret dX10_says_65 (Nat.le_of_ble_eq_true rfl) (Nat.le_of_ble_eq_true rfl) ?_
                    first | exact puF hp (if_neg (fun z => by have := z.1; omega)) hR rfl | exact absurd c52 (by decide) | exact absurd c57 (by decide) | (exfalso; omega)
      · rw [nI_ltI (by omega) (by decide)] at c3
        refine V.iload_n (i := 2) dX10_says_6 rfl rfl ?_
        refine V.bipush dX10_says_7 bc_20 ?_
        refine V.icmp_ge (tgt := 16) dX10_says_9 rfl (fun c9 => ?_) (fun c9 => ?_)
        · rw [nI_leI (by decide) (by omega)] at c9
          refine V.iconst dX10_says_16 ic_0 ?_
          refine V.istore_n3 (by decide) dX10_says_17 ?_
          refine V.iload_n (i := 2) dX10_says_18 rfl rfl ?_
          refine V.bipush dX10_says_19 bc_20 ?_
          refine V.icmp_lt (tgt := 34) dX10_says_21 rfl (fun c21 => ?_) (fun c21 => ?_)
          · rw [nI_ltI (by omega) (by decide)] at c21
            refine V.iconst dX10_says_34 ic_0 ?_
            refine V.istore4 (by decide) dX10_says_35 ?_
            refine V.iload_n (i := 1) dX10_says_37 rfl rfl ?_
            refine V.sipush dX10_says_38 sc_10000 ?_
            refine V.cs2D dX10_says_41 lk_X10_96 (k_isBelowN _ 10000 (by decide) ⟨rfl, rfl⟩) (by decide) (by decide) (Nat.le_of_ble_eq_true rfl) (Nat.le_of_ble_eq_true rfl) (Nat.le_of_ble_eq_true rfl) ?_
            refine V.ifb_eq (tgt := 60) dX10_says_44 rfl (fun c44 => ?_) (fun c44 => ?_)
            · refine V.aload_n (i := 0) dX10_says_60 rfl rfl ?_
              refine V.iconst dX10_says_61 ic_1 ?_
              refine V.cv1D (ci := 10) dX10_says_62 lk_X10_82 (by decide) rfl hR.F.x (k_finding hR _ (by decide) ⟨rfl, rfl⟩) (by decide) (by decide) (Nat.le_of_ble_eq_true rfl) (Nat.le_of_ble_eq_true rfl) (Nat.le_of_ble_eq_true rfl) ?_
              refine V.iret dX10_says_65 (Nat.le_of_ble_eq_true rfl) (Nat.le_of_ble_eq_true rfl) ?_
              first | exact puF hp (if_neg (fun z => by have := z.1; omega)) hR rfl | exact absurd c52 (by decide) | exact absurd c57 (by decide) | (exfalso; omega)
            · refine V.iload_n (i := 2) dX10_says_47 rfl rfl ?_
              refine V.if_eq (tgt := 66) dX10_says_48 rfl (fun c48 => ?_) (fun c48 => ?_)
              · rw [show (0 : Int32) = nI 0 from rfl, nI_eq (by omega) (by decide)] at c48
                refine V.aload_n (i := 0) dX10_says_66 rfl rfl ?_
                refine V.iload_n (i := 1) dX10_says_67 rfl rfl ?_
                refine V.cv1D (ci := 10) dX10_says_68 lk_X10_197 (by decide) rfl hR.F.x (k_treatyInForceN hR hI on hf ⟨rfl, rfl⟩) (by decide) (by decide) (Nat.le_of_ble_eq_true rfl) (Nat.le_of_ble_eq_true rfl) (Nat.le_of_ble_eq_true rfl) ?_
                refine V.astore5N (by decide) dX10_says_71 ?_
                refine V.aloadN (i := 5) dX10_says_73 rfl ?_
                refine V.ifnonnullN dX10_says_75 ?_
                refine V.aload_n (i := 0) dX10_says_78 rfl rfl ?_
                refine V.iconst dX10_says_79 ic_2 ?_
                refine V.cv1D (ci := 10) dX10_says_80 lk_X10_82 (by decide) rfl hR.F.x (k_finding hR _ (by decide) ⟨rfl, rfl⟩) (by decide) (by decide) (Nat.le_of_ble_eq_true rfl) (Nat.le_of_ble_eq_true rfl) (Nat.le_of_ble_eq_true rfl) ?_
                refine V.iret dX10_says_83 (Nat.le_of_ble_eq_true rfl) (Nat.le_of_ble_eq_true rfl) ?_
                exact puF hp (by unfold s_says; rw [if_pos ⟨by omega, by rw [toI j (by omega)]; exact hw⟩, hf]) hR rfl
              · rw [show (0 : Int32) = nI 0 from rfl, nI_eq (by omega) (by decide)] at c48
                refine V.iload_n (i := 3) dX10_says_51 rfl rfl ?_
                refine V.if_ne (tgt := 66) dX10_says_52 rfl (fun c52 => ?_) (fun c52 => ?_)
                · refine V.aload_n (i := 0) dX10_says_66 rfl rfl ?_
                  refine V.iload_n (i := 1) dX10_says_67 rfl rfl ?_
                  refine V.cv1D (ci := 10) dX10_says_68 lk_X10_197 (by decide) rfl hR.F.x (k_treatyInForceN hR hI on hf ⟨rfl, rfl⟩) (by decide) (by decide) (Nat.le_of_ble_eq_true rfl) (Nat.le_of_ble_eq_true rfl) (Nat.le_of_ble_eq_true rfl) ?_
                  refine V.astore5N (by decide) dX10_says_71 ?_
                  refine V.aloadN (i := 5) dX10_says_73 rfl ?_
                  refine V.ifnonnullN dX10_says_75 ?_
                  refine V.aload_n (i := 0) dX10_says_78 rfl rfl ?_
                  refine V.iconst dX10_says_79 ic_2 ?_
                  refine V.cv1D (ci := 10) dX10_says_80 lk_X10_82 (by decide) rfl hR.F.x (k_finding hR _ (by decide) ⟨rfl, rfl⟩) (by decide) (by decide) (Nat.le_of_ble_eq_true rfl) (Nat.le_of_ble_eq_true rfl) (Nat.le_of_ble_eq_true rfl) ?_
                  refine V.iret dX10_says_83 (Nat.le_of_ble_eq_true rfl) (Nat.le_of_ble_eq_true rfl) ?_
                  exact puF hp (by unfold s_says; rw [if_pos ⟨by omega, by rw [toI j (by omega)]; exact hw⟩, hf]) hR rfl
                · refine V.iload (i := 4) dX10_says_55 rfl ?_
                  refine V.if_ne (tgt := 66) dX10_says_57 rfl (fun c57 => ?_) (fun c57 => ?_)
                  · refine V.aload_n (i := 0) dX10_says_66 rfl rfl ?_
                    refine V.iload_n (i := 1) dX10_says_67 rfl rfl ?_
                    refine V.cv1D (ci := 10) dX10_says_68 lk_X10_197 (by decide) rfl hR.F.x (k_treatyInForceN hR hI on hf ⟨rfl, rfl⟩) (by decide) (by decide) (Nat.le_of_ble_eq_true rfl) (Nat.le_of_ble_eq_true rfl) (Nat.le_of_ble_eq_true rfl) ?_
                    refine V.astore5N (by decide) dX10_says_71 ?_
                    refine V.aloadN (i := 5) dX10_says_73 rfl ?_
                    refine V.ifnonnullN dX10_says_75 ?_
                    refine V.aload_n (i := 0) dX10_says_78 rfl rfl ?_
                    refine V.iconst dX10_says_79 ic_2 ?_
                    refine V.cv1D (ci := 10) dX10_says_80 lk_X10_82 (by decide) rfl hR.F.x (k_finding hR _ (by decide) ⟨rfl, rfl⟩) (by decide) (by decide) (Nat.le_of_ble_eq_true rfl) (Nat.le_of_ble_eq_true rfl) (Nat.le_of_ble_eq_true rfl) ?_
                    refine V.iret dX10_says_83 (Nat.le_of_ble_eq_true rfl) (Nat.le_of_ble_eq_true rfl) ?_
                    exact puF hp (by unfold s_says; rw [if_pos ⟨by omega, by rw [toI j (by omega)]; exact hw⟩, hf]) hR rfl
                  · refine V.aload_n (i := 0) dX10_says_60 rfl rfl ?_
                    refine V.iconst dX10_says_61 ic_1 ?_
                    refine V.cv1D (ci := 10) dX10_says_62 lk_X10_82 (by decide) rfl hR.F.x (k_finding hR _ (by decide) ⟨rfl, rfl⟩) (by decide) (by decide) (Nat.le_of_ble_eq_true rfl) (Nat.le_of_ble_eq_true rfl) (Nat.le_of_ble_eq_true rfl) ?_
                    refine V.iret dX10_says_65 (Nat.le_of_ble_eq_true rfl) (Nat.le_of_ble_eq_true rfl) ?_
                    first | exact puF hp (if_neg (fun z => by have := z.1; omega)) hR rfl | exact absurd c52 (by decide) | exact absurd c57 (by decide) | (exfalso; omega)
          · rw [nI_ltI (by omega) (by decide)] at c21
            refine V.iload_n (i := 2) dX10_says_24 rfl rfl ?_
            refine V.bipush dX10_says_25 bc_24 ?_
            refine V.icmp_ge (tgt := 34) dX10_says_27 rfl (fun c27 => ?_) (fun c27 => ?_)
            · rw [nI_leI (by decide) (by omega)] at c27
              refine V.iconst dX10_says_34 ic_0 ?_
              refine V.istore4 (by decide) dX10_says_35 ?_
              refine V.iload_n (i := 1) dX10_says_37 rfl rfl ?_
              refine V.sipush dX10_says_38 sc_10000 ?_
              refine V.cs2D dX10_says_41 lk_X10_96 (k_isBelowN _ 10000 (by decide) ⟨rfl, rfl⟩) (by decide) (by decide) (Nat.le_of_ble_eq_true rfl) (Nat.le_of_ble_eq_true rfl) (Nat.le_of_ble_eq_true rfl) ?_
              refine V.ifb_eq (tgt := 60) dX10_says_44 rfl (fun c44 => ?_) (fun c44 => ?_)
              · refine V.aload_n (i := 0) dX10_says_60 rfl rfl ?_
                refine V.iconst dX10_says_61 ic_1 ?_
                refine V.cv1D (ci := 10) dX10_says_62 lk_X10_82 (by decide) rfl hR.F.x (k_finding hR _ (by decide) ⟨rfl, rfl⟩) (by decide) (by decide) (Nat.le_of_ble_eq_true rfl) (Nat.le_of_ble_eq_true rfl) (Nat.le_of_ble_eq_true rfl) ?_
                refine V.iret dX10_says_65 (Nat.le_of_ble_eq_true rfl) (Nat.le_of_ble_eq_true rfl) ?_
                first | exact puF hp (if_neg (fun z => by have := z.1; omega)) hR rfl | exact absurd c52 (by decide) | exact absurd c57 (by decide) | (exfalso; omega)
              · refine V.iload_n (i := 2) dX10_says_47 rfl rfl ?_
                refine V.if_eq (tgt := 66) dX10_says_48 rfl (fun c48 => ?_) (fun c48 => ?_)
                · rw [show (0 : Int32) = nI 0 from rfl, nI_eq (by omega) (by decide)] at c48
                  refine V.aload_n (i := 0) dX10_says_66 rfl rfl ?_
                  refine V.iload_n (i := 1) dX10_says_67 rfl rfl ?_
                  refine V.cv1D (ci := 10) dX10_says_68 lk_X10_197 (by decide) rfl hR.F.x (k_treatyInForceN hR hI on hf ⟨rfl, rfl⟩) (by decide) (by decide) (Nat.le_of_ble_eq_true rfl) (Nat.le_of_ble_eq_true rfl) (Nat.le_of_ble_eq_true rfl) ?_
                  refine V.astore5N (by decide) dX10_says_71 ?_
                  refine V.aloadN (i := 5) dX10_says_73 rfl ?_
                  refine V.ifnonnullN dX10_says_75 ?_
                  refine V.aload_n (i := 0) dX10_says_78 rfl rfl ?_
                  refine V.iconst dX10_says_79 ic_2 ?_
                  refine V.cv1D (ci := 10) dX10_says_80 lk_X10_82 (by decide) rfl hR.F.x (k_finding hR _ (by decide) ⟨rfl, rfl⟩) (by decide) (by decide) (Nat.le_of_ble_eq_true rfl) (Nat.le_of_ble_eq_true rfl) (Nat.le_of_ble_eq_true rfl) ?_
                  refine V.iret dX10_says_83 (Nat.le_of_ble_eq_true rfl) (Nat.le_of_ble_eq_true rfl) ?_
                  exact puF hp (by unfold s_says; rw [if_pos ⟨by omega, by rw [toI j (by omega)]; exact hw⟩, hf]) hR rfl
                · rw [show (0 : Int32) = nI 0 from rfl, nI_eq (by omega) (by decide)] at c48
                  refine V.iload_n (i := 3) dX10_says_51 rfl rfl ?_
                  refine V.if_ne (tgt := 66) dX10_says_52 rfl (fun c52 => ?_) (fun c52 => ?_)
                  · refine V.aload_n (i := 0) dX10_says_66 rfl rfl ?_
                    refine V.iload_n (i := 1) dX10_says_67 rfl rfl ?_
                    refine V.cv1D (ci := 10) dX10_says_68 lk_X10_197 (by decide) rfl hR.F.x (k_treatyInForceN hR hI on hf ⟨rfl, rfl⟩) (by decide) (by decide) (Nat.le_of_ble_eq_true rfl) (Nat.le_of_ble_eq_true rfl) (Nat.le_of_ble_eq_true rfl) ?_
                    refine V.astore5N (by decide) dX10_says_71 ?_
                    refine V.aloadN (i := 5) dX10_says_73 rfl ?_
                    refine V.ifnonnullN dX10_says_75 ?_
                    refine V.aload_n (i := 0) dX10_says_78 rfl rfl ?_
                    refine V.iconst dX10_says_79 ic_2 ?_
                    refine V.cv1D (ci := 10) dX10_says_80 lk_X10_82 (by decide) rfl hR.F.x (k_finding hR _ (by decide) ⟨rfl, rfl⟩) (by decide) (by decide) (Nat.le_of_ble_eq_true rfl) (Nat.le_of_ble_eq_true rfl) (Nat.le_of_ble_eq_true rfl) ?_
                    refine V.iret dX10_says_83 (Nat.le_of_ble_eq_true rfl) (Nat.le_of_ble_eq_true rfl) ?_
                    exact puF hp (by unfold s_says; rw [if_pos ⟨by omega, by rw [toI j (by omega)]; exact hw⟩, hf]) hR rfl
                  · refine V.iload (i := 4) dX10_says_55 rfl ?_
                    refine V.if_ne (tgt := 66) dX10_says_57 rfl (fun c57 => ?_) (fun c57 => ?_)
                    · refine V.aload_n (i := 0) dX10_says_66 rfl rfl ?_
                      refine V.iload_n (i := 1) dX10_says_67 rfl rfl ?_
                      refine V.cv1D (ci := 10) dX10_says_68 lk_X10_197 (by decide) rfl hR.F.x (k_treatyInForceN hR hI on hf ⟨rfl, rfl⟩) (by decide) (by decide) (Nat.le_of_ble_eq_true rfl) (Nat.le_of_ble_eq_true rfl) (Nat.le_of_ble_eq_true rfl) ?_
                      refine V.astore5N (by decide) dX10_says_71 ?_
                      refine V.aloadN (i := 5) dX10_says_73 rfl ?_
                      refine V.ifnonnullN dX10_says_75 ?_
                      refine V.aload_n (i := 0) dX10_says_78 rfl rfl ?_
                      refine V.iconst dX10_says_79 ic_2 ?_
                      refine V.cv1D (ci := 10) dX10_says_80 lk_X10_82 (by decide) rfl hR.F.x (k_finding hR _ (by decide) ⟨rfl, rfl⟩) (by decide) (by decide) (Nat.le_of_ble_eq_true rfl) (Nat.le_of_ble_eq_true rfl) (Nat.le_of_ble_eq_true rfl) ?_
                      refine V.iret dX10_says_83 (Nat.le_of_ble_eq_true rfl) (Nat.le_of_ble_eq_true rfl) ?_
                      exact puF hp (by unfold s_says; rw [if_pos ⟨by omega, by rw [toI j (by omega)]; exact hw⟩, hf]) hR rfl
                    · refine V.aload_n (i := 0) dX10_says_60 rfl rfl ?_
                      refine V.iconst dX10_says_61 ic_1 ?_
                      refine V.cv1D (ci := 10) dX10_says_62 lk_X10_82 (by decide) rfl hR.F.x (k_finding hR _ (by decide) ⟨rfl, rfl⟩) (by decide) (by decide) (Nat.le_of_ble_eq_true rfl) (Nat.le_of_ble_eq_true rfl) (Nat.le_of_ble_eq_true rfl) ?_
                      refine V.iret dX10_says_65 (Nat.le_of_ble_eq_true rfl) (Nat.le_of_ble_eq_true rfl) ?_
                      first | exact puF hp (if_neg (fun z => by have := z.1; omega)) hR rfl | exact absurd c52 (by decide) | exact absurd c57 (by decide) | (exfalso; omega)
            · rw [nI_leI (by decide) (by omega)] at c27
              refine V.iconst dX10_says_30 ic_1 ?_
              refine V.goto (tgt := 35) dX10_says_31 rfl ?_
              refine V.istore4 (by decide) dX10_says_35 ?_
              refine V.iload_n (i := 1) dX10_says_37 rfl rfl ?_
              refine V.sipush dX10_says_38 sc_10000 ?_
              refine V.cs2D dX10_says_41 lk_X10_96 (k_isBelowN _ 10000 (by decide) ⟨rfl, rfl⟩) (by decide) (by decide) (Nat.le_of_ble_eq_true rfl) (Nat.le_of_ble_eq_true rfl) (Nat.le_of_ble_eq_true rfl) ?_
              refine V.ifb_eq (tgt := 60) dX10_says_44 rfl (fun c44 => ?_) (fun c44 => ?_)
              · refine V.aload_n (i := 0) dX10_says_60 rfl rfl ?_
                refine V.iconst dX10_says_61 ic_1 ?_
                refine V.cv1D (ci := 10) dX10_says_62 lk_X10_82 (by decide) rfl hR.F.x (k_finding hR _ (by decide) ⟨rfl, rfl⟩) (by decide) (by decide) (Nat.le_of_ble_eq_true rfl) (Nat.le_of_ble_eq_true rfl) (Nat.le_of_ble_eq_true rfl) ?_
                refine V.iret dX10_says_65 (Nat.le_of_ble_eq_true rfl) (Nat.le_of_ble_eq_true rfl) ?_
                first | exact puF hp (if_neg (fun z => by have := z.1; omega)) hR rfl | exact absurd c52 (by decide) | exact absurd c57 (by decide) | (exfalso; omega)
              · refine V.iload_n (i := 2) dX10_says_47 rfl rfl ?_
                refine V.if_eq (tgt := 66) dX10_says_48 rfl (fun c48 => ?_) (fun c48 => ?_)
                · rw [show (0 : Int32) = nI 0 from rfl, nI_eq (by omega) (by decide)] at c48
                  refine V.aload_n (i := 0) dX10_says_66 rfl rfl ?_
                  refine V.iload_n (i := 1) dX10_says_67 rfl rfl ?_
                  refine V.cv1D (ci := 10) dX10_says_68 lk_X10_197 (by decide) rfl hR.F.x (k_treatyInForceN hR hI on hf ⟨rfl, rfl⟩) (by decide) (by decide) (Nat.le_of_ble_eq_true rfl) (Nat.le_of_ble_eq_true rfl) (Nat.le_of_ble_eq_true rfl) ?_
                  refine V.astore5N (by decide) dX10_says_71 ?_
                  refine V.aloadN (i := 5) dX10_says_73 rfl ?_
                  refine V.ifnonnullN dX10_says_75 ?_
                  refine V.aload_n (i := 0) dX10_says_78 rfl rfl ?_
                  refine V.iconst dX10_says_79 ic_2 ?_
                  refine V.cv1D (ci := 10) dX10_says_80 lk_X10_82 (by decide) rfl hR.F.x (k_finding hR _ (by decide) ⟨rfl, rfl⟩) (by decide) (by decide) (Nat.le_of_ble_eq_true rfl) (Nat.le_of_ble_eq_true rfl) (Nat.le_of_ble_eq_true rfl) ?_
                  refine V.iret dX10_says_83 (Nat.le_of_ble_eq_true rfl) (Nat.le_of_ble_eq_true rfl) ?_
                  exact puF hp (by unfold s_says; rw [if_pos ⟨by omega, by rw [toI j (by omega)]; exact hw⟩, hf]) hR rfl
                · rw [show (0 : Int32) = nI 0 from rfl, nI_eq (by omega) (by decide)] at c48
                  refine V.iload_n (i := 3) dX10_says_51 rfl rfl ?_
                  refine V.if_ne (tgt := 66) dX10_says_52 rfl (fun c52 => ?_) (fun c52 => ?_)
                  · refine V.aload_n (i := 0) dX10_says_66 rfl rfl ?_
                    refine V.iload_n (i := 1) dX10_says_67 rfl rfl ?_
                    refine V.cv1D (ci := 10) dX10_says_68 lk_X10_197 (by decide) rfl hR.F.x (k_treatyInForceN hR hI on hf ⟨rfl, rfl⟩) (by decide) (by decide) (Nat.le_of_ble_eq_true rfl) (Nat.le_of_ble_eq_true rfl) (Nat.le_of_ble_eq_true rfl) ?_
                    refine V.astore5N (by decide) dX10_says_71 ?_
                    refine V.aloadN (i := 5) dX10_says_73 rfl ?_
                    refine V.ifnonnullN dX10_says_75 ?_
                    refine V.aload_n (i := 0) dX10_says_78 rfl rfl ?_
                    refine V.iconst dX10_says_79 ic_2 ?_
                    refine V.cv1D (ci := 10) dX10_says_80 lk_X10_82 (by decide) rfl hR.F.x (k_finding hR _ (by decide) ⟨rfl, rfl⟩) (by decide) (by decide) (Nat.le_of_ble_eq_true rfl) (Nat.le_of_ble_eq_true rfl) (Nat.le_of_ble_eq_true rfl) ?_
                    refine V.iret dX10_says_83 (Nat.le_of_ble_eq_true rfl) (Nat.le_of_ble_eq_true rfl) ?_
                    exact puF hp (by unfold s_says; rw [if_pos ⟨by omega, by rw [toI j (by omega)]; exact hw⟩, hf]) hR rfl
                  · refine V.iload (i := 4) dX10_says_55 rfl ?_
                    refine V.if_ne (tgt := 66) dX10_says_57 rfl (fun c57 => ?_) (fun c57 => ?_)
                    · refine V.aload_n (i := 0) dX10_says_66 rfl rfl ?_
                      refine V.iload_n (i := 1) dX10_says_67 rfl rfl ?_
                      refine V.cv1D (ci := 10) dX10_says_68 lk_X10_197 (by decide) rfl hR.F.x (k_treatyInForceN hR hI on hf ⟨rfl, rfl⟩) (by decide) (by decide) (Nat.le_of_ble_eq_true rfl) (Nat.le_of_ble_eq_true rfl) (Nat.le_of_ble_eq_true rfl) ?_
                      refine V.astore5N (by decide) dX10_says_71 ?_
                      refine V.aloadN (i := 5) dX10_says_73 rfl ?_
                      refine V.ifnonnullN dX10_says_75 ?_
                      refine V.aload_n (i := 0) dX10_says_78 rfl rfl ?_
                      refine V.iconst dX10_says_79 ic_2 ?_
                      refine V.cv1D (ci := 10) dX10_says_80 lk_X10_82 (by decide) rfl hR.F.x (k_finding hR _ (by decide) ⟨rfl, rfl⟩) (by decide) (by decide) (Nat.le_of_ble_eq_true rfl) (Nat.le_of_ble_eq_true rfl) (Nat.le_of_ble_eq_true rfl) ?_
                      refine V.iret dX10_says_83 (Nat.le_of_ble_eq_true rfl) (Nat.le_of_ble_eq_true rfl) ?_
                      exact puF hp (by unfold s_says; rw [if_pos ⟨by omega, by rw [toI j (by omega)]; exact hw⟩, hf]) hR rfl
                    · refine V.aload_n (i := 0) dX10_says_60 rfl rfl ?_
                      refine V.iconst dX10_says_61 ic_1 ?_
                      refine V.cv1D (ci := 10) dX10_says_62 lk_X10_82 (by decide) rfl hR.F.x (k_finding hR _ (by decide) ⟨rfl, rfl⟩) (by decide) (by decide) (Nat.le_of_ble_eq_true rfl) (Nat.le_of_ble_eq_true rfl) (Nat.le_of_ble_eq_true rfl) ?_
                      refine V.iret dX10_says_65 (Nat.le_of_ble_eq_true rfl) (Nat.le_of_ble_eq_true rfl) ?_
                      first | exact puF hp (if_neg (fun z => by have := z.1; omega)) hR rfl | exact absurd c52 (by decide) | exact absurd c57 (by decide) | (exfalso; omega)
        · rw [nI_leI (by decide) (by omega)] at c9
          refine V.iconst dX10_says_12 ic_1 ?_
          refine V.goto (tgt := 17) dX10_says_13 rfl ?_
          refine V.istore_n3 (by decide) dX10_says_17 ?_
          refine V.iload_n (i := 2) dX10_says_18 rfl rfl ?_
          refine V.bipush dX10_says_19 bc_20 ?_
          refine V.icmp_lt (tgt := 34) dX10_says_21 rfl (fun c21 => ?_) (fun c21 => ?_)
          · rw [nI_ltI (by omega) (by decide)] at c21
            refine V.iconst dX10_says_34 ic_0 ?_
            refine V.istore4 (by decide) dX10_says_35 ?_
            refine V.iload_n (i := 1) dX10_says_37 rfl rfl ?_
            refine V.sipush dX10_says_38 sc_10000 ?_
            refine V.cs2D dX10_says_41 lk_X10_96 (k_isBelowN _ 10000 (by decide) ⟨rfl, rfl⟩) (by decide) (by decide) (Nat.le_of_ble_eq_true rfl) (Nat.le_of_ble_eq_true rfl) (Nat.le_of_ble_eq_true rfl) ?_
            refine V.ifb_eq (tgt := 60) dX10_says_44 rfl (fun c44 => ?_) (fun c44 => ?_)
            · refine V.aload_n (i := 0) dX10_says_60 rfl rfl ?_
              refine V.iconst dX10_says_61 ic_1 ?_
              refine V.cv1D (ci := 10) dX10_says_62 lk_X10_82 (by decide) rfl hR.F.x (k_finding hR _ (by decide) ⟨rfl, rfl⟩) (by decide) (by decide) (Nat.le_of_ble_eq_true rfl) (Nat.le_of_ble_eq_true rfl) (Nat.le_of_ble_eq_true rfl) ?_
              refine V.iret dX10_says_65 (Nat.le_of_ble_eq_true rfl) (Nat.le_of_ble_eq_true rfl) ?_
              first | exact puF hp (if_neg (fun z => by have := z.1; omega)) hR rfl | exact absurd c52 (by decide) | exact absurd c57 (by decide) | (exfalso; omega)
            · refine V.iload_n (i := 2) dX10_says_47 rfl rfl ?_
              refine V.if_eq (tgt := 66) dX10_says_48 rfl (fun c48 => ?_) (fun c48 => ?_)
              · rw [show (0 : Int32) = nI 0 from rfl, nI_eq (by omega) (by decide)] at c48
                refine V.aload_n (i := 0) dX10_says_66 rfl rfl ?_
                refine V.iload_n (i := 1) dX10_says_67 rfl rfl ?_
                refine V.cv1D (ci := 10) dX10_says_68 lk_X10_197 (by decide) rfl hR.F.x (k_treatyInForceN hR hI on hf ⟨rfl, rfl⟩) (by decide) (by decide) (Nat.le_of_ble_eq_true rfl) (Nat.le_of_ble_eq_true rfl) (Nat.le_of_ble_eq_true rfl) ?_
                refine V.astore5N (by decide) dX10_says_71 ?_
                refine V.aloadN (i := 5) dX10_says_73 rfl ?_
                refine V.ifnonnullN dX10_says_75 ?_
                refine V.aload_n (i := 0) dX10_says_78 rfl rfl ?_
                refine V.iconst dX10_says_79 ic_2 ?_
                refine V.cv1D (ci := 10) dX10_says_80 lk_X10_82 (by decide) rfl hR.F.x (k_finding hR _ (by decide) ⟨rfl, rfl⟩) (by decide) (by decide) (Nat.le_of_ble_eq_true rfl) (Nat.le_of_ble_eq_true rfl) (Nat.le_of_ble_eq_true rfl) ?_
                refine V.iret dX10_says_83 (Nat.le_of_ble_eq_true rfl) (Nat.le_of_ble_eq_true rfl) ?_
                exact puF hp (by unfold s_says; rw [if_pos ⟨by omega, by rw [toI j (by omega)]; exact hw⟩, hf]) hR rfl
              · rw [show (0 : Int32) = nI 0 from rfl, nI_eq (by omega) (by decide)] at c48
                refine V.iload_n (i := 3) dX10_says_51 rfl rfl ?_
                refine V.if_ne (tgt := 66) dX10_says_52 rfl (fun c52 => ?_) (fun c52 => ?_)
                · refine V.aload_n (i := 0) dX10_says_66 rfl rfl ?_
                  refine V.iload_n (i := 1) dX10_says_67 rfl rfl ?_
                  refine V.cv1D (ci := 10) dX10_says_68 lk_X10_197 (by decide) rfl hR.F.x (k_treatyInForceN hR hI on hf ⟨rfl, rfl⟩) (by decide) (by decide) (Nat.le_of_ble_eq_true rfl) (Nat.le_of_ble_eq_true rfl) (Nat.le_of_ble_eq_true rfl) ?_
                  refine V.astore5N (by decide) dX10_says_71 ?_
                  refine V.aloadN (i := 5) dX10_says_73 rfl ?_
                  refine V.ifnonnullN dX10_says_75 ?_
                  refine V.aload_n (i := 0) dX10_says_78 rfl rfl ?_
                  refine V.iconst dX10_says_79 ic_2 ?_
                  refine V.cv1D (ci := 10) dX10_says_80 lk_X10_82 (by decide) rfl hR.F.x (k_finding hR _ (by decide) ⟨rfl, rfl⟩) (by decide) (by decide) (Nat.le_of_ble_eq_true rfl) (Nat.le_of_ble_eq_true rfl) (Nat.le_of_ble_eq_true rfl) ?_
                  refine V.iret dX10_says_83 (Nat.le_of_ble_eq_true rfl) (Nat.le_of_ble_eq_true rfl) ?_
                  exact puF hp (by unfold s_says; rw [if_pos ⟨by omega, by rw [toI j (by omega)]; exact hw⟩, hf]) hR rfl
                · refine V.iload (i := 4) dX10_says_55 rfl ?_
                  refine V.if_ne (tgt := 66) dX10_says_57 rfl (fun c57 => ?_) (fun c57 => ?_)
                  · refine V.aload_n (i := 0) dX10_says_66 rfl rfl ?_
                    refine V.iload_n (i := 1) dX10_says_67 rfl rfl ?_
                    refine V.cv1D (ci := 10) dX10_says_68 lk_X10_197 (by decide) rfl hR.F.x (k_treatyInForceN hR hI on hf ⟨rfl, rfl⟩) (by decide) (by decide) (Nat.le_of_ble_eq_true rfl) (Nat.le_of_ble_eq_true rfl) (Nat.le_of_ble_eq_true rfl) ?_
                    refine V.astore5N (by decide) dX10_says_71 ?_
                    refine V.aloadN (i := 5) dX10_says_73 rfl ?_
                    refine V.ifnonnullN dX10_says_75 ?_
                    refine V.aload_n (i := 0) dX10_says_78 rfl rfl ?_
                    refine V.iconst dX10_says_79 ic_2 ?_
                    refine V.cv1D (ci := 10) dX10_says_80 lk_X10_82 (by decide) rfl hR.F.x (k_finding hR _ (by decide) ⟨rfl, rfl⟩) (by decide) (by decide) (Nat.le_of_ble_eq_true rfl) (Nat.le_of_ble_eq_true rfl) (Nat.le_of_ble_eq_true rfl) ?_
                    refine V.iret dX10_says_83 (Nat.le_of_ble_eq_true rfl) (Nat.le_of_ble_eq_true rfl) ?_
                    exact puF hp (by unfold s_says; rw [if_pos ⟨by omega, by rw [toI j (by omega)]; exact hw⟩, hf]) hR rfl
                  · refine V.aload_n (i := 0) dX10_says_60 rfl rfl ?_
                    refine V.iconst dX10_says_61 ic_1 ?_
                    refine V.cv1D (ci := 10) dX10_says_62 lk_X10_82 (by decide) rfl hR.F.x (k_finding hR _ (by decide) ⟨rfl, rfl⟩) (by decide) (by decide) (Nat.le_of_ble_eq_true rfl) (Nat.le_of_ble_eq_true rfl) (Nat.le_of_ble_eq_true rfl) ?_
                    refine V.iret dX10_says_65 (Nat.le_of_ble_eq_true rfl) (Nat.le_of_ble_eq_true rfl) ?_
                    first | exact puF hp (if_neg (fun z => by have := z.1; omega)) hR rfl | exact absurd c52 (by decide) | exact absurd c57 (by decide) | (exfalso; omega)
          · rw [nI_ltI (by omega) (by decide)] at c21
            refine V.iload_n (i := 2) dX10_says_24 rfl rfl ?_
            refine V.bipush dX10_says_25 bc_24 ?_
            refine V.icmp_ge (tgt := 34) dX10_says_27 rfl (fun c27 => ?_) (fun c27 => ?_)
            · rw [nI_leI (by decide) (by omega)] at c27
              refine V.iconst dX10_says_34 ic_0 ?_
              refine V.istore4 (by decide) dX10_says_35 ?_
              refine V.iload_n (i := 1) dX10_says_37 rfl rfl ?_
              refine V.sipush dX10_says_38 sc_10000 ?_
              refine V.cs2D dX10_says_41 lk_X10_96 (k_isBelowN _ 10000 (by decide) ⟨rfl, rfl⟩) (by decide) (by decide) (Nat.le_of_ble_eq_true rfl) (Nat.le_of_ble_eq_true rfl) (Nat.le_of_ble_eq_true rfl) ?_
              refine V.ifb_eq (tgt := 60) dX10_says_44 rfl (fun c44 => ?_) (fun c44 => ?_)
              · refine V.aload_n (i := 0) dX10_says_60 rfl rfl ?_
                refine V.iconst dX10_says_61 ic_1 ?_
                refine V.cv1D (ci := 10) dX10_says_62 lk_X10_82 (by decide) rfl hR.F.x (k_finding hR _ (by decide) ⟨rfl, rfl⟩) (by decide) (by decide) (Nat.le_of_ble_eq_true rfl) (Nat.le_of_ble_eq_true rfl) (Nat.le_of_ble_eq_true rfl) ?_
                refine V.iret dX10_says_65 (Nat.le_of_ble_eq_true rfl) (Nat.le_of_ble_eq_true rfl) ?_
                first | exact puF hp (if_neg (fun z => by have := z.1; omega)) hR rfl | exact absurd c52 (by decide) | exact absurd c57 (by decide) | (exfalso; omega)
              · refine V.iload_n (i := 2) dX10_says_47 rfl rfl ?_
                refine V.if_eq (tgt := 66) dX10_says_48 rfl (fun c48 => ?_) (fun c48 => ?_)
                · rw [show (0 : Int32) = nI 0 from rfl, nI_eq (by omega) (by decide)] at c48
                  refine V.aload_n (i := 0) dX10_says_66 rfl rfl ?_
                  refine V.iload_n (i := 1) dX10_says_67 rfl rfl ?_
                  refine V.cv1D (ci := 10) dX10_says_68 lk_X10_197 (by decide) rfl hR.F.x (k_treatyInForceN hR hI on hf ⟨rfl, rfl⟩) (by decide) (by decide) (Nat.le_of_ble_eq_true rfl) (Nat.le_of_ble_eq_true rfl) (Nat.le_of_ble_eq_true rfl) ?_
                  refine V.astore5N (by decide) dX10_says_71 ?_
                  refine V.aloadN (i := 5) dX10_says_73 rfl ?_
                  refine V.ifnonnullN dX10_says_75 ?_
                  refine V.aload_n (i := 0) dX10_says_78 rfl rfl ?_
                  refine V.iconst dX10_says_79 ic_2 ?_
                  refine V.cv1D (ci := 10) dX10_says_80 lk_X10_82 (by decide) rfl hR.F.x (k_finding hR _ (by decide) ⟨rfl, rfl⟩) (by decide) (by decide) (Nat.le_of_ble_eq_true rfl) (Nat.le_of_ble_eq_true rfl) (Nat.le_of_ble_eq_true rfl) ?_
                  refine V.iret dX10_says_83 (Nat.le_of_ble_eq_true rfl) (Nat.le_of_ble_eq_true rfl) ?_
                  exact puF hp (by unfold s_says; rw [if_pos ⟨by omega, by rw [toI j (by omega)]; exact hw⟩, hf]) hR rfl
                · rw [show (0 : Int32) = nI 0 from rfl, nI_eq (by omega) (by decide)] at c48
                  refine V.iload_n (i := 3) dX10_says_51 rfl rfl ?_
                  refine V.if_ne (tgt := 66) dX10_says_52 rfl (fun c52 => ?_) (fun c52 => ?_)
                  · refine V.aload_n (i := 0) dX10_says_66 rfl rfl ?_
                    refine V.iload_n (i := 1) dX10_says_67 rfl rfl ?_
                    refine V.cv1D (ci := 10) dX10_says_68 lk_X10_197 (by decide) rfl hR.F.x (k_treatyInForceN hR hI on hf ⟨rfl, rfl⟩) (by decide) (by decide) (Nat.le_of_ble_eq_true rfl) (Nat.le_of_ble_eq_true rfl) (Nat.le_of_ble_eq_true rfl) ?_
                    refine V.astore5N (by decide) dX10_says_71 ?_
                    refine V.aloadN (i := 5) dX10_says_73 rfl ?_
                    refine V.ifnonnullN dX10_says_75 ?_
                    refine V.aload_n (i := 0) dX10_says_78 rfl rfl ?_
                    refine V.iconst dX10_says_79 ic_2 ?_
                    refine V.cv1D (ci := 10) dX10_says_80 lk_X10_82 (by decide) rfl hR.F.x (k_finding hR _ (by decide) ⟨rfl, rfl⟩) (by decide) (by decide) (Nat.le_of_ble_eq_true rfl) (Nat.le_of_ble_eq_true rfl) (Nat.le_of_ble_eq_true rfl) ?_
                    refine V.iret dX10_says_83 (Nat.le_of_ble_eq_true rfl) (Nat.le_of_ble_eq_true rfl) ?_
                    exact puF hp (by unfold s_says; rw [if_pos ⟨by omega, by rw [toI j (by omega)]; exact hw⟩, hf]) hR rfl
                  · refine V.iload (i := 4) dX10_says_55 rfl ?_
                    refine V.if_ne (tgt := 66) dX10_says_57 rfl (fun c57 => ?_) (fun c57 => ?_)
                    · refine V.aload_n (i := 0) dX10_says_66 rfl rfl ?_
                      refine V.iload_n (i := 1) dX10_says_67 rfl rfl ?_
                      refine V.cv1D (ci := 10) dX10_says_68 lk_X10_197 (by decide) rfl hR.F.x (k_treatyInForceN hR hI on hf ⟨rfl, rfl⟩) (by decide) (by decide) (Nat.le_of_ble_eq_true rfl) (Nat.le_of_ble_eq_true rfl) (Nat.le_of_ble_eq_true rfl) ?_
                      refine V.astore5N (by decide) dX10_says_71 ?_
                      refine V.aloadN (i := 5) dX10_says_73 rfl ?_
                      refine V.ifnonnullN dX10_says_75 ?_
                      refine V.aload_n (i := 0) dX10_says_78 rfl rfl ?_
                      refine V.iconst dX10_says_79 ic_2 ?_
                      refine V.cv1D (ci := 10) dX10_says_80 lk_X10_82 (by decide) rfl hR.F.x (k_finding hR _ (by decide) ⟨rfl, rfl⟩) (by decide) (by decide) (Nat.le_of_ble_eq_true rfl) (Nat.le_of_ble_eq_true rfl) (Nat.le_of_ble_eq_true rfl) ?_
                      refine V.iret dX10_says_83 (Nat.le_of_ble_eq_true rfl) (Nat.le_of_ble_eq_true rfl) ?_
                      exact puF hp (by unfold s_says; rw [if_pos ⟨by omega, by rw [toI j (by omega)]; exact hw⟩, hf]) hR rfl
                    · refine V.aload_n (i := 0) dX10_says_60 rfl rfl ?_
                      refine V.iconst dX10_says_61 ic_1 ?_
                      refine V.cv1D (ci := 10) dX10_says_62 lk_X10_82 (by decide) rfl hR.F.x (k_finding hR _ (by decide) ⟨rfl, rfl⟩) (by decide) (by decide) (Nat.le_of_ble_eq_true rfl) (Nat.le_of_ble_eq_true rfl) (Nat.le_of_ble_eq_true rfl) ?_
                      refine V.iret dX10_says_65 (Nat.le_of_ble_eq_true rfl) (Nat.le_of_ble_eq_true rfl) ?_
                      first | exact puF hp (if_neg (fun z => by have := z.1; omega)) hR rfl | exact absurd c52 (by decide) | exact absurd c57 (by decide) | (exfalso; omega)
            · rw [nI_leI (by decide) (by omega)] at c27
              refine V.iconst dX10_says_30 ic_1 ?_
              refine V.goto (tgt := 35) dX10_says_31 rfl ?_
              refine V.istore4 (by decide) dX10_says_35 ?_
              refine V.iload_n (i := 1) dX10_says_37 rfl rfl ?_
              refine V.sipush dX10_says_38 sc_10000 ?_
              refine V.cs2D dX10_says_41 lk_X10_96 (k_isBelowN _ 10000 (by decide) ⟨rfl, rfl⟩) (by decide) (by decide) (Nat.le_of_ble_eq_true rfl) (Nat.le_of_ble_eq_true rfl) (Nat.le_of_ble_eq_true rfl) ?_
              refine V.ifb_eq (tgt := 60) dX10_says_44 rfl (fun c44 => ?_) (fun c44 => ?_)
              · refine V.aload_n (i := 0) dX10_says_60 rfl rfl ?_
                refine V.iconst dX10_says_61 ic_1 ?_
                refine V.cv1D (ci := 10) dX10_says_62 lk_X10_82 (by decide) rfl hR.F.x (k_finding hR _ (by decide) ⟨rfl, rfl⟩) (by decide) (by decide) (Nat.le_of_ble_eq_true rfl) (Nat.le_of_ble_eq_true rfl) (Nat.le_of_ble_eq_true rfl) ?_
                refine V.iret dX10_says_65 (Nat.le_of_ble_eq_true rfl) (Nat.le_of_ble_eq_true rfl) ?_
                first | exact puF hp (if_neg (fun z => by have := z.1; omega)) hR rfl | exact absurd c52 (by decide) | exact absurd c57 (by decide) | (exfalso; omega)
              · refine V.iload_n (i := 2) dX10_says_47 rfl rfl ?_
                refine V.if_eq (tgt := 66) dX10_says_48 rfl (fun c48 => ?_) (fun c48 => ?_)
                · rw [show (0 : Int32) = nI 0 from rfl, nI_eq (by omega) (by decide)] at c48
                  refine V.aload_n (i := 0) dX10_says_66 rfl rfl ?_
                  refine V.iload_n (i := 1) dX10_says_67 rfl rfl ?_
                  refine V.cv1D (ci := 10) dX10_says_68 lk_X10_197 (by decide) rfl hR.F.x (k_treatyInForceN hR hI on hf ⟨rfl, rfl⟩) (by decide) (by decide) (Nat.le_of_ble_eq_true rfl) (Nat.le_of_ble_eq_true rfl) (Nat.le_of_ble_eq_true rfl) ?_
                  refine V.astore5N (by decide) dX10_says_71 ?_
                  refine V.aloadN (i := 5) dX10_says_73 rfl ?_
                  refine V.ifnonnullN dX10_says_75 ?_
                  refine V.aload_n (i := 0) dX10_says_78 rfl rfl ?_
                  refine V.iconst dX10_says_79 ic_2 ?_
                  refine V.cv1D (ci := 10) dX10_says_80 lk_X10_82 (by decide) rfl hR.F.x (k_finding hR _ (by decide) ⟨rfl, rfl⟩) (by decide) (by decide) (Nat.le_of_ble_eq_true rfl) (Nat.le_of_ble_eq_true rfl) (Nat.le_of_ble_eq_true rfl) ?_
                  refine V.iret dX10_says_83 (Nat.le_of_ble_eq_true rfl) (Nat.le_of_ble_eq_true rfl) ?_
                  exact puF hp (by unfold s_says; rw [if_pos ⟨by omega, by rw [toI j (by omega)]; exact hw⟩, hf]) hR rfl
                · rw [show (0 : Int32) = nI 0 from rfl, nI_eq (by omega) (by decide)] at c48
                  refine V.iload_n (i := 3) dX10_says_51 rfl rfl ?_
                  refine V.if_ne (tgt := 66) dX10_says_52 rfl (fun c52 => ?_) (fun c52 => ?_)
                  · refine V.aload_n (i := 0) dX10_says_66 rfl rfl ?_
                    refine V.iload_n (i := 1) dX10_says_67 rfl rfl ?_
                    refine V.cv1D (ci := 10) dX10_says_68 lk_X10_197 (by decide) rfl hR.F.x (k_treatyInForceN hR hI on hf ⟨rfl, rfl⟩) (by decide) (by decide) (Nat.le_of_ble_eq_true rfl) (Nat.le_of_ble_eq_true rfl) (Nat.le_of_ble_eq_true rfl) ?_
                    refine V.astore5N (by decide) dX10_says_71 ?_
                    refine V.aloadN (i := 5) dX10_says_73 rfl ?_
                    refine V.ifnonnullN dX10_says_75 ?_
                    refine V.aload_n (i := 0) dX10_says_78 rfl rfl ?_
                    refine V.iconst dX10_says_79 ic_2 ?_
                    refine V.cv1D (ci := 10) dX10_says_80 lk_X10_82 (by decide) rfl hR.F.x (k_finding hR _ (by decide) ⟨rfl, rfl⟩) (by decide) (by decide) (Nat.le_of_ble_eq_true rfl) (Nat.le_of_ble_eq_true rfl) (Nat.le_of_ble_eq_true rfl) ?_
                    refine V.iret dX10_says_83 (Nat.le_of_ble_eq_true rfl) (Nat.le_of_ble_eq_true rfl) ?_
                    exact puF hp (by unfold s_says; rw [if_pos ⟨by omega, by rw [toI j (by omega)]; exact hw⟩, hf]) hR rfl
                  · refine V.iload (i := 4) dX10_says_55 rfl ?_
                    refine V.if_ne (tgt := 66) dX10_says_57 rfl (fun c57 => ?_) (fun c57 => ?_)
                    · refine V.aload_n (i := 0) dX10_says_66 rfl rfl ?_
                      refine V.iload_n (i := 1) dX10_says_67 rfl rfl ?_
                      refine V.cv1D (ci := 10) dX10_says_68 lk_X10_197 (by decide) rfl hR.F.x (k_treatyInForceN hR hI on hf ⟨rfl, rfl⟩) (by decide) (by decide) (Nat.le_of_ble_eq_true rfl) (Nat.le_of_ble_eq_true rfl) (Nat.le_of_ble_eq_true rfl) ?_
                      refine V.astore5N (by decide) dX10_says_71 ?_
                      refine V.aloadN (i := 5) dX10_says_73 rfl ?_
                      refine V.ifnonnullN dX10_says_75 ?_
                      refine V.aload_n (i := 0) dX10_says_78 rfl rfl ?_
                      refine V.iconst dX10_says_79 ic_2 ?_
                      refine V.cv1D (ci := 10) dX10_says_80 lk_X10_82 (by decide) rfl hR.F.x (k_finding hR _ (by decide) ⟨rfl, rfl⟩) (by decide) (by decide) (Nat.le_of_ble_eq_true rfl) (Nat.le_of_ble_eq_true rfl) (Nat.le_of_ble_eq_true rfl) ?_
                      refine V.iret dX10_says_83 (Nat.le_of_ble_eq_true rfl) (Nat.le_of_ble_eq_true rfl) ?_
                      exact puF hp (by unfold s_says; rw [if_pos ⟨by omega, by rw [toI j (by omega)]; exact hw⟩, hf]) hR rfl
                    · refine V.aload_n (i := 0) dX10_says_60 rfl rfl ?_
                      refine V.iconst dX10_says_61 ic_1 ?_
                      refine V.cv1D (ci := 10) dX10_says_62 lk_X10_82 (by decide) rfl hR.F.x (k_finding hR _ (by decide) ⟨rfl, rfl⟩) (by decide) (by decide) (Nat.le_of_ble_eq_true rfl) (Nat.le_of_ble_eq_true rfl) (Nat.le_of_ble_eq_true rfl) ?_
                      refine V.iret dX10_says_65 (Nat.le_of_ble_eq_true rfl) (Nat.le_of_ble_eq_true rfl) ?_
                      first | exact puF hp (if_neg (fun z => by have := z.1; omega)) hR rfl | exact absurd c52 (by decide) | exact absurd c57 (by decide) | (exfalso; omega)
    | some t =>
      have ht : t < nTr G := frcK_lt G on _ t hf
      have hn := hI.trN.2
      have hz : (0 ≤ on.toInt ∧ on.toInt ≤ 9999) → s_says G on (nI j) = (if j = 0 then G 23 t else if j < 20 then G 24 (10 * t + (j - 10)) else G 25 (4 * t + (j - 20)), G) := fun h => by unfold s_says; rw [if_pos ⟨h, by rw [toI j (by omega)]; exact hw⟩, hf, tn_nI (by omega)]
      rcases hw with h0 | h1 | h2
      · have : j = 0 := by omega
        subst this
        refine V.iload_n (i := 2) dX10_says_0 rfl rfl ?_
        refine V.bipush dX10_says_1 bc_10 ?_
        refine V.icmp_ltT (tgt := 16) dX10_says_3 rfl (by decide) ?_
        refine V.iconst dX10_says_16 ic_0 ?_
        refine V.istore_n3 (by decide) dX10_says_17 ?_
        refine V.iload_n (i := 2) dX10_says_18 rfl rfl ?_
        refine V.bipush dX10_says_19 bc_20 ?_
        refine V.icmp_ltT (tgt := 34) dX10_says_21 rfl (by decide) ?_
        refine V.iconst dX10_says_34 ic_0 ?_
        refine V.istore4 (by decide) dX10_says_35 ?_
        refine V.iload_n (i := 1) dX10_says_37 rfl rfl ?_
        refine V.sipush dX10_says_38 sc_10000 ?_
        refine V.cs2D dX10_says_41 lk_X10_96 (k_isBelowN _ 10000 (by decide) ⟨rfl, rfl⟩) (by decide) (by decide) (Nat.le_of_ble_eq_true rfl) (Nat.le_of_ble_eq_true rfl) (Nat.le_of_ble_eq_true rfl) ?_
        refine V.ifb_eq (tgt := 60) dX10_says_44 rfl (fun c44 => ?_) (fun c44 => ?_)
        · refine V.aload_n (i := 0) dX10_says_60 rfl rfl ?_
          refine V.iconst dX10_says_61 ic_1 ?_
          refine V.cv1D (ci := 10) dX10_says_62 lk_X10_82 (by decide) rfl hR.F.x (k_finding hR _ (by decide) ⟨rfl, rfl⟩) (by decide) (by decide) (Nat.le_of_ble_eq_true rfl) (Nat.le_of_ble_eq_true rfl) (Nat.le_of_ble_eq_true rfl) ?_
          refine V.iret dX10_says_65 (Nat.le_of_ble_eq_true rfl) (Nat.le_of_ble_eq_true rfl) ?_
          exact puF hp (if_neg (fun z => by have := z.1; omega)) hR rfl
        · refine V.iload_n (i := 2) dX10_says_47 rfl rfl ?_
          refine V.if_eqT (tgt := 66) dX10_says_48 rfl rfl ?_
          refine V.aload_n (i := 0) dX10_says_66 rfl rfl ?_
          refine V.iload_n (i := 1) dX10_says_67 rfl rfl ?_
          refine V.cv1D (ci := 10) dX10_says_68 lk_X10_197 (by decide) rfl hR.F.x (k_treatyInForceY hR hI on hf ⟨rfl, rfl⟩) (by decide) (by decide) (Nat.le_of_ble_eq_true rfl) (Nat.le_of_ble_eq_true rfl) (Nat.le_of_ble_eq_true rfl) ?_
          refine V.astore5 (by decide) dX10_says_71 ?_
          refine V.aload (i := 5) dX10_says_73 rfl ?_
          refine V.ifnonnull (tgt := 84) dX10_says_75 rfl ?_
          refine V.iload_n (i := 3) dX10_says_84 rfl rfl ?_
          refine V.if_eqT (tgt := 99) dX10_says_85 rfl rfl ?_
          refine V.iload (i := 4) dX10_says_99 rfl ?_
          refine V.if_eqT (tgt := 117) dX10_says_101 rfl rfl ?_
          refine V.aload (i := 5) dX10_says_117 rfl ?_
          refine V.geti dX10_says_119 fl_X10_207 rfl (hR.T.at t ht).2 ?_
          refine V.iret dX10_says_122 (Nat.le_of_ble_eq_true rfl) (Nat.le_of_ble_eq_true rfl) ?_
          exact pv hp (hz (by omega)) (hR.T.lim t ht) hR rfl
      · skip
        refine V.iload_n (i := 2) dX10_says_0 rfl rfl ?_
        refine V.bipush dX10_says_1 bc_10 ?_
        refine V.icmp_ltF (tgt := 16) dX10_says_3 rfl (by rw [nI_ltI (by omega) (by decide)]; omega) ?_
        refine V.iload_n (i := 2) dX10_says_6 rfl rfl ?_
        refine V.bipush dX10_says_7 bc_20 ?_
        refine V.icmp_geF (tgt := 16) dX10_says_9 rfl (by rw [nI_leI (by decide) (by omega)]; omega) ?_
        refine V.iconst dX10_says_12 ic_1 ?_
        refine V.goto (tgt := 17) dX10_says_13 rfl ?_
        refine V.istore_n3 (by decide) dX10_says_17 ?_
        refine V.iload_n (i := 2) dX10_says_18 rfl rfl ?_
        refine V.bipush dX10_says_19 bc_20 ?_
        refine V.icmp_ltT (tgt := 34) dX10_says_21 rfl (by rw [nI_ltI (by omega) (by decide)]; omega) ?_
        refine V.iconst dX10_says_34 ic_0 ?_
        refine V.istore4 (by decide) dX10_says_35 ?_
        refine V.iload_n (i := 1) dX10_says_37 rfl rfl ?_
        refine V.sipush dX10_says_38 sc_10000 ?_
        refine V.cs2D dX10_says_41 lk_X10_96 (k_isBelowN _ 10000 (by decide) ⟨rfl, rfl⟩) (by decide) (by decide) (Nat.le_of_ble_eq_true rfl) (Nat.le_of_ble_eq_true rfl) (Nat.le_of_ble_eq_true rfl) ?_
        refine V.ifb_eq (tgt := 60) dX10_says_44 rfl (fun c44 => ?_) (fun c44 => ?_)
        · refine V.aload_n (i := 0) dX10_says_60 rfl rfl ?_
          refine V.iconst dX10_says_61 ic_1 ?_
          refine V.cv1D (ci := 10) dX10_says_62 lk_X10_82 (by decide) rfl hR.F.x (k_finding hR _ (by decide) ⟨rfl, rfl⟩) (by decide) (by decide) (Nat.le_of_ble_eq_true rfl) (Nat.le_of_ble_eq_true rfl) (Nat.le_of_ble_eq_true rfl) ?_
          refine V.iret dX10_says_65 (Nat.le_of_ble_eq_true rfl) (Nat.le_of_ble_eq_true rfl) ?_
          exact puF hp (if_neg (fun z => by have := z.1; omega)) hR rfl
        · refine V.iload_n (i := 2) dX10_says_47 rfl rfl ?_
          refine V.if_eqF (tgt := 66) dX10_says_48 rfl (by rw [show (0 : Int32) = nI 0 from rfl, nI_eq (by omega) (by decide)]; omega) ?_
          refine V.iload_n (i := 3) dX10_says_51 rfl rfl ?_
          refine V.if_neT (tgt := 66) dX10_says_52 rfl (by decide) ?_
          refine V.aload_n (i := 0) dX10_says_66 rfl rfl ?_
          refine V.iload_n (i := 1) dX10_says_67 rfl rfl ?_
          refine V.cv1D (ci := 10) dX10_says_68 lk_X10_197 (by decide) rfl hR.F.x (k_treatyInForceY hR hI on hf ⟨rfl, rfl⟩) (by decide) (by decide) (Nat.le_of_ble_eq_true rfl) (Nat.le_of_ble_eq_true rfl) (Nat.le_of_ble_eq_true rfl) ?_
          refine V.astore5 (by decide) dX10_says_71 ?_
          refine V.aload (i := 5) dX10_says_73 rfl ?_
          refine V.ifnonnull (tgt := 84) dX10_says_75 rfl ?_
          refine V.iload_n (i := 3) dX10_says_84 rfl rfl ?_
          refine V.if_eqF (tgt := 99) dX10_says_85 rfl (by decide) ?_
          refine V.aload (i := 5) dX10_says_88 rfl ?_
          refine V.getS dX10_says_90 fl_X10_201 rfl (hR.T.at t ht).2 (hR.T.wts t ht).1 ?_
          refine V.iload_n (i := 2) dX10_says_93 rfl rfl ?_
          refine V.bipush dX10_says_94 bc_10 ?_
          refine V.isub dX10_says_96 ?_
          refine V.as _ (pk_sub (by omega)) ?_
          refine V.iald (t := 23) dX10_says_97 (hR.T.wts t ht).2 (by decide) rfl rfl (show _ < 10 from (by omega)) (by decide) ?_
          refine V.iret dX10_says_98 (Nat.le_of_ble_eq_true rfl) (Nat.le_of_ble_eq_true rfl) ?_
          exact pv hp (hz (by omega)) (by rw [if_neg (by omega), if_pos (by omega)]; exact hR.T.wt t ht _ (by omega)) hR rfl
      · skip
        refine V.iload_n (i := 2) dX10_says_0 rfl rfl ?_
        refine V.bipush dX10_says_1 bc_10 ?_
        refine V.icmp_ltF (tgt := 16) dX10_says_3 rfl (by rw [nI_ltI (by omega) (by decide)]; omega) ?_
        refine V.iload_n (i := 2) dX10_says_6 rfl rfl ?_
        refine V.bipush dX10_says_7 bc_20 ?_
        refine V.icmp_geT (tgt := 16) dX10_says_9 rfl (by rw [nI_leI (by decide) (by omega)]; omega) ?_
        refine V.iconst dX10_says_16 ic_0 ?_
        refine V.istore_n3 (by decide) dX10_says_17 ?_
        refine V.iload_n (i := 2) dX10_says_18 rfl rfl ?_
        refine V.bipush dX10_says_19 bc_20 ?_
        refine V.icmp_ltF (tgt := 34) dX10_says_21 rfl (by rw [nI_ltI (by omega) (by decide)]; omega) ?_
        refine V.iload_n (i := 2) dX10_says_24 rfl rfl ?_
        refine V.bipush dX10_says_25 bc_24 ?_
        refine V.icmp_geF (tgt := 34) dX10_says_27 rfl (by rw [nI_leI (by decide) (by omega)]; omega) ?_
        refine V.iconst dX10_says_30 ic_1 ?_
        refine V.goto (tgt := 35) dX10_says_31 rfl ?_
        refine V.istore4 (by decide) dX10_says_35 ?_
        refine V.iload_n (i := 1) dX10_says_37 rfl rfl ?_
        refine V.sipush dX10_says_38 sc_10000 ?_
        refine V.cs2D dX10_says_41 lk_X10_96 (k_isBelowN _ 10000 (by decide) ⟨rfl, rfl⟩) (by decide) (by decide) (Nat.le_of_ble_eq_true rfl) (Nat.le_of_ble_eq_true rfl) (Nat.le_of_ble_eq_true rfl) ?_
        refine V.ifb_eq (tgt := 60) dX10_says_44 rfl (fun c44 => ?_) (fun c44 => ?_)
        · refine V.aload_n (i := 0) dX10_says_60 rfl rfl ?_
          refine V.iconst dX10_says_61 ic_1 ?_
          refine V.cv1D (ci := 10) dX10_says_62 lk_X10_82 (by decide) rfl hR.F.x (k_finding hR _ (by decide) ⟨rfl, rfl⟩) (by decide) (by decide) (Nat.le_of_ble_eq_true rfl) (Nat.le_of_ble_eq_true rfl) (Nat.le_of_ble_eq_true rfl) ?_
          refine V.iret dX10_says_65 (Nat.le_of_ble_eq_true rfl) (Nat.le_of_ble_eq_true rfl) ?_
          exact puF hp (if_neg (fun z => by have := z.1; omega)) hR rfl
        · refine V.iload_n (i := 2) dX10_says_47 rfl rfl ?_
          refine V.if_eqF (tgt := 66) dX10_says_48 rfl (by rw [show (0 : Int32) = nI 0 from rfl, nI_eq (by omega) (by decide)]; omega) ?_
          refine V.iload_n (i := 3) dX10_says_51 rfl rfl ?_
          refine V.if_neF (tgt := 66) dX10_says_52 rfl (by decide) ?_
          refine V.iload (i := 4) dX10_says_55 rfl ?_
          refine V.if_neT (tgt := 66) dX10_says_57 rfl (by decide) ?_
          refine V.aload_n (i := 0) dX10_says_66 rfl rfl ?_
          refine V.iload_n (i := 1) dX10_says_67 rfl rfl ?_
          refine V.cv1D (ci := 10) dX10_says_68 lk_X10_197 (by decide) rfl hR.F.x (k_treatyInForceY hR hI on hf ⟨rfl, rfl⟩) (by decide) (by decide) (Nat.le_of_ble_eq_true rfl) (Nat.le_of_ble_eq_true rfl) (Nat.le_of_ble_eq_true rfl) ?_
          refine V.astore5 (by decide) dX10_says_71 ?_
          refine V.aload (i := 5) dX10_says_73 rfl ?_
          refine V.ifnonnull (tgt := 84) dX10_says_75 rfl ?_
          refine V.iload_n (i := 3) dX10_says_84 rfl rfl ?_
          refine V.if_eqT (tgt := 99) dX10_says_85 rfl rfl ?_
          refine V.iload (i := 4) dX10_says_99 rfl ?_
          refine V.if_eqF (tgt := 117) dX10_says_101 rfl (by decide) ?_
          refine V.aload (i := 5) dX10_says_104 rfl ?_
          refine V.getS dX10_says_106 fl_X10_204 rfl (hR.T.at t ht).2 (hR.T.grv t ht).1 ?_
          refine V.iload_n (i := 2) dX10_says_109 rfl rfl ?_
          refine V.bipush dX10_says_110 bc_20 ?_
          refine V.isub dX10_says_112 ?_
          refine V.as _ (pk_sub (by omega)) ?_
          refine V.iald (t := 24) dX10_says_113 (hR.T.grv t ht).2 (by decide) rfl rfl (show _ < 4 from (by omega)) (by decide) ?_
          refine V.goto (tgt := 122) dX10_says_114 rfl ?_
          refine V.iret dX10_says_122 (Nat.le_of_ble_eq_true rfl) (Nat.le_of_ble_eq_true rfl) ?_
          exact pv hp (hz (by omega)) (by rw [if_neg (by omega), if_neg (by omega)]; exact hR.T.gr t ht _ (by omega)) hR rfl
  · skip
    refine V.iload_n (i := 2) dX10_says_0 rfl rfl ?_
    refine V.bipush dX10_says_1 bc_10 ?_
    refine V.icmp_lt (tgt := 16) dX10_says_3 rfl (fun c3 => ?_) (fun c3 => ?_)
    · rw [fa_lt, toI _ (by decide)] at c3
      refine V.iconst dX10_says_16 ic_0 ?_
      refine V.istore_n3 (by decide) dX10_says_17 ?_
      refine V.iload_n (i := 2) dX10_says_18 rfl rfl ?_
      refine V.bipush dX10_says_19 bc_20 ?_
      refine V.icmp_lt (tgt := 34) dX10_says_21 rfl (fun c21 => ?_) (fun c21 => ?_)
      · rw [fa_lt, toI _ (by decide)] at c21
        refine V.iconst dX10_says_34 ic_0 ?_
        refine V.istore4 (by decide) dX10_says_35 ?_
        refine V.iload_n (i := 1) dX10_says_37 rfl rfl ?_
        refine V.sipush dX10_says_38 sc_10000 ?_
        refine V.cs2D dX10_says_41 lk_X10_96 (k_isBelowN _ 10000 (by decide) ⟨rfl, rfl⟩) (by decide) (by decide) (Nat.le_of_ble_eq_true rfl) (Nat.le_of_ble_eq_true rfl) (Nat.le_of_ble_eq_true rfl) ?_
        refine V.ifb_eq (tgt := 60) dX10_says_44 rfl (fun c44 => ?_) (fun c44 => ?_)
        · refine V.aload_n (i := 0) dX10_says_60 rfl rfl ?_
          refine V.iconst dX10_says_61 ic_1 ?_
          refine V.cv1D (ci := 10) dX10_says_62 lk_X10_82 (by decide) rfl hR.F.x (k_finding hR _ (by decide) ⟨rfl, rfl⟩) (by decide) (by decide) (Nat.le_of_ble_eq_true rfl) (Nat.le_of_ble_eq_true rfl) (Nat.le_of_ble_eq_true rfl) ?_
          refine V.iret dX10_says_65 (Nat.le_of_ble_eq_true rfl) (Nat.le_of_ble_eq_true rfl) ?_
          exact puF hp (if_neg (fun z => hw z.2)) hR rfl
        · refine V.iload_n (i := 2) dX10_says_47 rfl rfl ?_
          refine V.if_eq (tgt := 66) dX10_says_48 rfl (fun c48 => ?_) (fun c48 => ?_)
          · rw [fa_eq, show ((0 : Int32)).toInt = 0 from rfl] at c48
            first | (exfalso; omega) | exact absurd rfl c52 | exact absurd rfl c57
          · rw [fa_eq, show ((0 : Int32)).toInt = 0 from rfl] at c48
            refine V.iload_n (i := 3) dX10_says_51 rfl rfl ?_
            refine V.if_ne (tgt := 66) dX10_says_52 rfl (fun c52 => ?_) (fun c52 => ?_)
            · first | (exfalso; omega) | exact absurd rfl c52 | exact absurd rfl c57
            · refine V.iload (i := 4) dX10_says_55 rfl ?_
              refine V.if_ne (tgt := 66) dX10_says_57 rfl (fun c57 => ?_) (fun c57 => ?_)
              · first | (exfalso; omega) | exact absurd rfl c52 | exact absurd rfl c57
              · refine V.aload_n (i := 0) dX10_says_60 rfl rfl ?_
                refine V.iconst dX10_says_61 ic_1 ?_
                refine V.cv1D (ci := 10) dX10_says_62 lk_X10_82 (by decide) rfl hR.F.x (k_finding hR _ (by decide) ⟨rfl, rfl⟩) (by decide) (by decide) (Nat.le_of_ble_eq_true rfl) (Nat.le_of_ble_eq_true rfl) (Nat.le_of_ble_eq_true rfl) ?_
                refine V.iret dX10_says_65 (Nat.le_of_ble_eq_true rfl) (Nat.le_of_ble_eq_true rfl) ?_
                exact puF hp (if_neg (fun z => hw z.2)) hR rfl
      · rw [fa_lt, toI _ (by decide)] at c21
        refine V.iload_n (i := 2) dX10_says_24 rfl rfl ?_
        refine V.bipush dX10_says_25 bc_24 ?_
        refine V.icmp_ge (tgt := 34) dX10_says_27 rfl (fun c27 => ?_) (fun c27 => ?_)
        · rw [fa_le, toI _ (by decide)] at c27
          refine V.iconst dX10_says_34 ic_0 ?_
          refine V.istore4 (by decide) dX10_says_35 ?_
          refine V.iload_n (i := 1) dX10_says_37 rfl rfl ?_
          refine V.sipush dX10_says_38 sc_10000 ?_
          refine V.cs2D dX10_says_41 lk_X10_96 (k_isBelowN _ 10000 (by decide) ⟨rfl, rfl⟩) (by decide) (by decide) (Nat.le_of_ble_eq_true rfl) (Nat.le_of_ble_eq_true rfl) (Nat.le_of_ble_eq_true rfl) ?_
          refine V.ifb_eq (tgt := 60) dX10_says_44 rfl (fun c44 => ?_) (fun c44 => ?_)
          · refine V.aload_n (i := 0) dX10_says_60 rfl rfl ?_
            refine V.iconst dX10_says_61 ic_1 ?_
            refine V.cv1D (ci := 10) dX10_says_62 lk_X10_82 (by decide) rfl hR.F.x (k_finding hR _ (by decide) ⟨rfl, rfl⟩) (by decide) (by decide) (Nat.le_of_ble_eq_true rfl) (Nat.le_of_ble_eq_true rfl) (Nat.le_of_ble_eq_true rfl) ?_
            refine V.iret dX10_says_65 (Nat.le_of_ble_eq_true rfl) (Nat.le_of_ble_eq_true rfl) ?_
            exact puF hp (if_neg (fun z => hw z.2)) hR rfl
          · refine V.iload_n (i := 2) dX10_says_47 rfl rfl ?_
            refine V.if_eq (tgt := 66) dX10_says_48 rfl (fun c48 => ?_) (fun c48 => ?_)
            · rw [fa_eq, show ((0 : Int32)).toInt = 0 from rfl] at c48
              first | (exfalso; omega) | exact absurd rfl c52 | exact absurd rfl c57
            · rw [fa_eq, show ((0 : Int32)).toInt = 0 from rfl] at c48
              refine V.iload_n (i := 3) dX10_says_51 rfl rfl ?_
              refine V.if_ne (tgt := 66) dX10_says_52 rfl (fun c52 => ?_) (fun c52 => ?_)
              · first | (exfalso; omega) | exact absurd rfl c52 | exact absurd rfl c57
              · refine V.iload (i := 4) dX10_says_55 rfl ?_
                refine V.if_ne (tgt := 66) dX10_says_57 rfl (fun c57 => ?_) (fun c57 => ?_)
                · first | (exfalso; omega) | exact absurd rfl c52 | exact absurd rfl c57
                · refine V.aload_n (i := 0) dX10_says_60 rfl rfl ?_
                  refine V.iconst dX10_says_61 ic_1 ?_
                  refine V.cv1D (ci := 10) dX10_says_62 lk_X10_82 (by decide) rfl hR.F.x (k_finding hR _ (by decide) ⟨rfl, rfl⟩) (by decide) (by decide) (Nat.le_of_ble_eq_true rfl) (Nat.le_of_ble_eq_true rfl) (Nat.le_of_ble_eq_true rfl) ?_
                  refine V.iret dX10_says_65 (Nat.le_of_ble_eq_true rfl) (Nat.le_of_ble_eq_true rfl) ?_
                  exact puF hp (if_neg (fun z => hw z.2)) hR rfl
        · rw [fa_le, toI _ (by decide)] at c27
          refine V.iconst dX10_says_30 ic_1 ?_
          refine V.goto (tgt := 35) dX10_says_31 rfl ?_
          refine V.istore4 (by decide) dX10_says_35 ?_
          refine V.iload_n (i := 1) dX10_says_37 rfl rfl ?_
          refine V.sipush dX10_says_38 sc_10000 ?_
          refine V.cs2D dX10_says_41 lk_X10_96 (k_isBelowN _ 10000 (by decide) ⟨rfl, rfl⟩) (by decide) (by decide) (Nat.le_of_ble_eq_true rfl) (Nat.le_of_ble_eq_true rfl) (Nat.le_of_ble_eq_true rfl) ?_
          refine V.ifb_eq (tgt := 60) dX10_says_44 rfl (fun c44 => ?_) (fun c44 => ?_)
          · refine V.aload_n (i := 0) dX10_says_60 rfl rfl ?_
            refine V.iconst dX10_says_61 ic_1 ?_
            refine V.cv1D (ci := 10) dX10_says_62 lk_X10_82 (by decide) rfl hR.F.x (k_finding hR _ (by decide) ⟨rfl, rfl⟩) (by decide) (by decide) (Nat.le_of_ble_eq_true rfl) (Nat.le_of_ble_eq_true rfl) (Nat.le_of_ble_eq_true rfl) ?_
            refine V.iret dX10_says_65 (Nat.le_of_ble_eq_true rfl) (Nat.le_of_ble_eq_true rfl) ?_
            exact puF hp (if_neg (fun z => hw z.2)) hR rfl
          · refine V.iload_n (i := 2) dX10_says_47 rfl rfl ?_
            refine V.if_eq (tgt := 66) dX10_says_48 rfl (fun c48 => ?_) (fun c48 => ?_)
            · rw [fa_eq, show ((0 : Int32)).toInt = 0 from rfl] at c48
              first | (exfalso; omega) | exact absurd rfl c52 | exact absurd rfl c57
            · rw [fa_eq, show ((0 : Int32)).toInt = 0 from rfl] at c48
              refine V.iload_n (i := 3) dX10_says_51 rfl rfl ?_
              refine V.if_ne (tgt := 66) dX10_says_52 rfl (fun c52 => ?_) (fun c52 => ?_)
              · first | (exfalso; omega) | exact absurd rfl c52 | exact absurd rfl c57
              · refine V.iload (i := 4) dX10_says_55 rfl ?_
                refine V.if_ne (tgt := 66) dX10_says_57 rfl (fun c57 => ?_) (fun c57 => ?_)
                · first | (exfalso; omega) | exact absurd rfl c52 | exact absurd rfl c57
                · refine V.aload_n (i := 0) dX10_says_60 rfl rfl ?_
                  refine V.iconst dX10_says_61 ic_1 ?_
                  refine V.cv1D (ci := 10) dX10_says_62 lk_X10_82 (by decide) rfl hR.F.x (k_finding hR _ (by decide) ⟨rfl, rfl⟩) (by decide) (by decide) (Nat.le_of_ble_eq_true rfl) (Nat.le_of_ble_eq_true rfl) (Nat.le_of_ble_eq_true rfl) ?_
                  refine V.iret dX10_says_65 (Nat.le_of_ble_eq_true rfl) (Nat.le_of_ble_eq_true rfl) ?_
                  exact puF hp (if_neg (fun z => hw z.2)) hR rfl
    · rw [fa_lt, toI _ (by decide)] at c3
      refine V.iload_n (i := 2) dX10_says_6 rfl rfl ?_
      refine V.bipush dX10_says_7 bc_20 ?_
      refine V.icmp_ge (tgt := 16) dX10_says_9 rfl (fun c9 => ?_) (fun c9 => ?_)
      · rw [fa_le, toI _ (by decide)] at c9
        refine V.iconst dX10_says_16 ic_0 ?_
        refine V.istore_n3 (by decide) dX10_says_17 ?_
        refine V.iload_n (i := 2) dX10_says_18 rfl rfl ?_
        refine V.bipush dX10_says_19 bc_20 ?_
        refine V.icmp_lt (tgt := 34) dX10_says_21 rfl (fun c21 => ?_) (fun c21 => ?_)
        · rw [fa_lt, toI _ (by decide)] at c21
          refine V.iconst dX10_says_34 ic_0 ?_
          refine V.istore4 (by decide) dX10_says_35 ?_
          refine V.iload_n (i := 1) dX10_says_37 rfl rfl ?_
          refine V.sipush dX10_says_38 sc_10000 ?_
          refine V.cs2D dX10_says_41 lk_X10_96 (k_isBelowN _ 10000 (by decide) ⟨rfl, rfl⟩) (by decide) (by decide) (Nat.le_of_ble_eq_true rfl) (Nat.le_of_ble_eq_true rfl) (Nat.le_of_ble_eq_true rfl) ?_
          refine V.ifb_eq (tgt := 60) dX10_says_44 rfl (fun c44 => ?_) (fun c44 => ?_)
          · refine V.aload_n (i := 0) dX10_says_60 rfl rfl ?_
            refine V.iconst dX10_says_61 ic_1 ?_
            refine V.cv1D (ci := 10) dX10_says_62 lk_X10_82 (by decide) rfl hR.F.x (k_finding hR _ (by decide) ⟨rfl, rfl⟩) (by decide) (by decide) (Nat.le_of_ble_eq_true rfl) (Nat.le_of_ble_eq_true rfl) (Nat.le_of_ble_eq_true rfl) ?_
            refine V.iret dX10_says_65 (Nat.le_of_ble_eq_true rfl) (Nat.le_of_ble_eq_true rfl) ?_
            exact puF hp (if_neg (fun z => hw z.2)) hR rfl
          · refine V.iload_n (i := 2) dX10_says_47 rfl rfl ?_
            refine V.if_eq (tgt := 66) dX10_says_48 rfl (fun c48 => ?_) (fun c48 => ?_)
            · rw [fa_eq, show ((0 : Int32)).toInt = 0 from rfl] at c48
              first | (exfalso; omega) | exact absurd rfl c52 | exact absurd rfl c57
            · rw [fa_eq, show ((0 : Int32)).toInt = 0 from rfl] at c48
              refine V.iload_n (i := 3) dX10_says_51 rfl rfl ?_
              refine V.if_ne (tgt := 66) dX10_says_52 rfl (fun c52 => ?_) (fun c52 => ?_)
              · first | (exfalso; omega) | exact absurd rfl c52 | exact absurd rfl c57
              · refine V.iload (i := 4) dX10_says_55 rfl ?_
                refine V.if_ne (tgt := 66) dX10_says_57 rfl (fun c57 => ?_) (fun c57 => ?_)
                · first | (exfalso; omega) | exact absurd rfl c52 | exact absurd rfl c57
                · refine V.aload_n (i := 0) dX10_says_60 rfl rfl ?_
                  refine V.iconst dX10_says_61 ic_1 ?_
                  refine V.cv1D (ci := 10) dX10_says_62 lk_X10_82 (by decide) rfl hR.F.x (k_finding hR _ (by decide) ⟨rfl, rfl⟩) (by decide) (by decide) (Nat.le_of_ble_eq_true rfl) (Nat.le_of_ble_eq_true rfl) (Nat.le_of_ble_eq_true rfl) ?_
                  refine V.iret dX10_says_65 (Nat.le_of_ble_eq_true rfl) (Nat.le_of_ble_eq_true rfl) ?_
                  exact puF hp (if_neg (fun z => hw z.2)) hR rfl
        · rw [fa_lt, toI _ (by decide)] at c21
          refine V.iload_n (i := 2) dX10_says_24 rfl rfl ?_
          refine V.bipush dX10_says_25 bc_24 ?_
          refine V.icmp_ge (tgt := 34) dX10_says_27 rfl (fun c27 => ?_) (fun c27 => ?_)
          · rw [fa_le, toI _ (by decide)] at c27
            refine V.iconst dX10_says_34 ic_0 ?_
            refine V.istore4 (by decide) dX10_says_35 ?_
            refine V.iload_n (i := 1) dX10_says_37 rfl rfl ?_
            refine V.sipush dX10_says_38 sc_10000 ?_
            refine V.cs2D dX10_says_41 lk_X10_96 (k_isBelowN _ 10000 (by decide) ⟨rfl, rfl⟩) (by decide) (by decide) (Nat.le_of_ble_eq_true rfl) (Nat.le_of_ble_eq_true rfl) (Nat.le_of_ble_eq_true rfl) ?_
            refine V.ifb_eq (tgt := 60) dX10_says_44 rfl (fun c44 => ?_) (fun c44 => ?_)
            · refine V.aload_n (i := 0) dX10_says_60 rfl rfl ?_
              refine V.iconst dX10_says_61 ic_1 ?_
              refine V.cv1D (ci := 10) dX10_says_62 lk_X10_82 (by decide) rfl hR.F.x (k_finding hR _ (by decide) ⟨rfl, rfl⟩) (by decide) (by decide) (Nat.le_of_ble_eq_true rfl) (Nat.le_of_ble_eq_true rfl) (Nat.le_of_ble_eq_true rfl) ?_
              refine V.iret dX10_says_65 (Nat.le_of_ble_eq_true rfl) (Nat.le_of_ble_eq_true rfl) ?_
              exact puF hp (if_neg (fun z => hw z.2)) hR rfl
            · refine V.iload_n (i := 2) dX10_says_47 rfl rfl ?_
              refine V.if_eq (tgt := 66) dX10_says_48 rfl (fun c48 => ?_) (fun c48 => ?_)
              · rw [fa_eq, show ((0 : Int32)).toInt = 0 from rfl] at c48
                first | (exfalso; omega) | exact absurd rfl c52 | exact absurd rfl c57
              · rw [fa_eq, show ((0 : Int32)).toInt = 0 from rfl] at c48
                refine V.iload_n (i := 3) dX10_says_51 rfl rfl ?_
                refine V.if_ne (tgt := 66) dX10_says_52 rfl (fun c52 => ?_) (fun c52 => ?_)
                · first | (exfalso; omega) | exact absurd rfl c52 | exact absurd rfl c57
                · refine V.iload (i := 4) dX10_says_55 rfl ?_
                  refine V.if_ne (tgt := 66) dX10_says_57 rfl (fun c57 => ?_) (fun c57 => ?_)
                  · first | (exfalso; omega) | exact absurd rfl c52 | exact absurd rfl c57
                  · refine V.aload_n (i := 0) dX10_says_60 rfl rfl ?_
                    refine V.iconst dX10_says_61 ic_1 ?_
                    refine V.cv1D (ci := 10) dX10_says_62 lk_X10_82 (by decide) rfl hR.F.x (k_finding hR _ (by decide) ⟨rfl, rfl⟩) (by decide) (by decide) (Nat.le_of_ble_eq_true rfl) (Nat.le_of_ble_eq_true rfl) (Nat.le_of_ble_eq_true rfl) ?_
                    refine V.iret dX10_says_65 (Nat.le_of_ble_eq_true rfl) (Nat.le_of_ble_eq_true rfl) ?_
                    exact puF hp (if_neg (fun z => hw z.2)) hR rfl
          · rw [fa_le, toI _ (by decide)] at c27
            refine V.iconst dX10_says_30 ic_1 ?_
            refine V.goto (tgt := 35) dX10_says_31 rfl ?_
            refine V.istore4 (by decide) dX10_says_35 ?_
            refine V.iload_n (i := 1) dX10_says_37 rfl rfl ?_
            refine V.sipush dX10_says_38 sc_10000 ?_
            refine V.cs2D dX10_says_41 lk_X10_96 (k_isBelowN _ 10000 (by decide) ⟨rfl, rfl⟩) (by decide) (by decide) (Nat.le_of_ble_eq_true rfl) (Nat.le_of_ble_eq_true rfl) (Nat.le_of_ble_eq_true rfl) ?_
            refine V.ifb_eq (tgt := 60) dX10_says_44 rfl (fun c44 => ?_) (fun c44 => ?_)
            · refine V.aload_n (i := 0) dX10_says_60 rfl rfl ?_
              refine V.iconst dX10_says_61 ic_1 ?_
              refine V.cv1D (ci := 10) dX10_says_62 lk_X10_82 (by decide) rfl hR.F.x (k_finding hR _ (by decide) ⟨rfl, rfl⟩) (by decide) (by decide) (Nat.le_of_ble_eq_true rfl) (Nat.le_of_ble_eq_true rfl) (Nat.le_of_ble_eq_true rfl) ?_
              refine V.iret dX10_says_65 (Nat.le_of_ble_eq_true rfl) (Nat.le_of_ble_eq_true rfl) ?_
              exact puF hp (if_neg (fun z => hw z.2)) hR rfl
            · refine V.iload_n (i := 2) dX10_says_47 rfl rfl ?_
              refine V.if_eq (tgt := 66) dX10_says_48 rfl (fun c48 => ?_) (fun c48 => ?_)
              · rw [fa_eq, show ((0 : Int32)).toInt = 0 from rfl] at c48
                first | (exfalso; omega) | exact absurd rfl c52 | exact absurd rfl c57
              · rw [fa_eq, show ((0 : Int32)).toInt = 0 from rfl] at c48
                refine V.iload_n (i := 3) dX10_says_51 rfl rfl ?_
                refine V.if_ne (tgt := 66) dX10_says_52 rfl (fun c52 => ?_) (fun c52 => ?_)
                · first | (exfalso; omega) | exact absurd rfl c52 | exact absurd rfl c57
                · refine V.iload (i := 4) dX10_says_55 rfl ?_
                  refine V.if_ne (tgt := 66) dX10_says_57 rfl (fun c57 => ?_) (fun c57 => ?_)
                  · first | (exfalso; omega) | exact absurd rfl c52 | exact absurd rfl c57
                  · refine V.aload_n (i := 0) dX10_says_60 rfl rfl ?_
                    refine V.iconst dX10_says_61 ic_1 ?_
                    refine V.cv1D (ci := 10) dX10_says_62 lk_X10_82 (by decide) rfl hR.F.x (k_finding hR _ (by decide) ⟨rfl, rfl⟩) (by decide) (by decide) (Nat.le_of_ble_eq_true rfl) (Nat.le_of_ble_eq_true rfl) (Nat.le_of_ble_eq_true rfl) ?_
                    refine V.iret dX10_says_65 (Nat.le_of_ble_eq_true rfl) (Nat.le_of_ble_eq_true rfl) ?_
                    exact puF hp (if_neg (fun z => hw z.2)) hR rfl
      · rw [fa_le, toI _ (by decide)] at c9
        refine V.iconst dX10_says_12 ic_1 ?_
        refine V.goto (tgt := 17) dX10_says_13 rfl ?_
        refine V.istore_n3 (by decide) dX10_says_17 ?_
        refine V.iload_n (i := 2) dX10_says_18 rfl rfl ?_
        refine V.bipush dX10_says_19 bc_20 ?_
        refine V.icmp_lt (tgt := 34) dX10_says_21 rfl (fun c21 => ?_) (fun c21 => ?_)
        · rw [fa_lt, toI _ (by decide)] at c21
          refine V.iconst dX10_says_34 ic_0 ?_
          refine V.istore4 (by decide) dX10_says_35 ?_
          refine V.iload_n (i := 1) dX10_says_37 rfl rfl ?_
          refine V.sipush dX10_says_38 sc_10000 ?_
          refine V.cs2D dX10_says_41 lk_X10_96 (k_isBelowN _ 10000 (by decide) ⟨rfl, rfl⟩) (by decide) (by decide) (Nat.le_of_ble_eq_true rfl) (Nat.le_of_ble_eq_true rfl) (Nat.le_of_ble_eq_true rfl) ?_
          refine V.ifb_eq (tgt := 60) dX10_says_44 rfl (fun c44 => ?_) (fun c44 => ?_)
          · refine V.aload_n (i := 0) dX10_says_60 rfl rfl ?_
            refine V.iconst dX10_says_61 ic_1 ?_
            refine V.cv1D (ci := 10) dX10_says_62 lk_X10_82 (by decide) rfl hR.F.x (k_finding hR _ (by decide) ⟨rfl, rfl⟩) (by decide) (by decide) (Nat.le_of_ble_eq_true rfl) (Nat.le_of_ble_eq_true rfl) (Nat.le_of_ble_eq_true rfl) ?_
            refine V.iret dX10_says_65 (Nat.le_of_ble_eq_true rfl) (Nat.le_of_ble_eq_true rfl) ?_
            exact puF hp (if_neg (fun z => hw z.2)) hR rfl
          · refine V.iload_n (i := 2) dX10_says_47 rfl rfl ?_
            refine V.if_eq (tgt := 66) dX10_says_48 rfl (fun c48 => ?_) (fun c48 => ?_)
            · rw [fa_eq, show ((0 : Int32)).toInt = 0 from rfl] at c48
              first | (exfalso; omega) | exact absurd rfl c52 | exact absurd rfl c57
            · rw [fa_eq, show ((0 : Int32)).toInt = 0 from rfl] at c48
              refine V.iload_n (i := 3) dX10_says_51 rfl rfl ?_
              refine V.if_ne (tgt := 66) dX10_says_52 rfl (fun c52 => ?_) (fun c52 => ?_)
              · first | (exfalso; omega) | exact absurd rfl c52 | exact absurd rfl c57
              · refine V.iload (i := 4) dX10_says_55 rfl ?_
                refine V.if_ne (tgt := 66) dX10_says_57 rfl (fun c57 => ?_) (fun c57 => ?_)
                · first | (exfalso; omega) | exact absurd rfl c52 | exact absurd rfl c57
                · refine V.aload_n (i := 0) dX10_says_60 rfl rfl ?_
                  refine V.iconst dX10_says_61 ic_1 ?_
                  refine V.cv1D (ci := 10) dX10_says_62 lk_X10_82 (by decide) rfl hR.F.x (k_finding hR _ (by decide) ⟨rfl, rfl⟩) (by decide) (by decide) (Nat.le_of_ble_eq_true rfl) (Nat.le_of_ble_eq_true rfl) (Nat.le_of_ble_eq_true rfl) ?_
                  refine V.iret dX10_says_65 (Nat.le_of_ble_eq_true rfl) (Nat.le_of_ble_eq_true rfl) ?_
                  exact puF hp (if_neg (fun z => hw z.2)) hR rfl
        · rw [fa_lt, toI _ (by decide)] at c21
          refine V.iload_n (i := 2) dX10_says_24 rfl rfl ?_
          refine V.bipush dX10_says_25 bc_24 ?_
          refine V.icmp_ge (tgt := 34) dX10_says_27 rfl (fun c27 => ?_) (fun c27 => ?_)
          · rw [fa_le, toI _ (by decide)] at c27
            refine V.iconst dX10_says_34 ic_0 ?_
            refine V.istore4 (by decide) dX10_says_35 ?_
            refine V.iload_n (i := 1) dX10_says_37 rfl rfl ?_
            refine V.sipush dX10_says_38 sc_10000 ?_
            refine V.cs2D dX10_says_41 lk_X10_96 (k_isBelowN _ 10000 (by decide) ⟨rfl, rfl⟩) (by decide) (by decide) (Nat.le_of_ble_eq_true rfl) (Nat.le_of_ble_eq_true rfl) (Nat.le_of_ble_eq_true rfl) ?_
            refine V.ifb_eq (tgt := 60) dX10_says_44 rfl (fun c44 => ?_) (fun c44 => ?_)
            · refine V.aload_n (i := 0) dX10_says_60 rfl rfl ?_
              refine V.iconst dX10_says_61 ic_1 ?_
              refine V.cv1D (ci := 10) dX10_says_62 lk_X10_82 (by decide) rfl hR.F.x (k_finding hR _ (by decide) ⟨rfl, rfl⟩) (by decide) (by decide) (Nat.le_of_ble_eq_true rfl) (Nat.le_of_ble_eq_true rfl) (Nat.le_of_ble_eq_true rfl) ?_
              refine V.iret dX10_says_65 (Nat.le_of_ble_eq_true rfl) (Nat.le_of_ble_eq_true rfl) ?_
              exact puF hp (if_neg (fun z => hw z.2)) hR rfl
            · refine V.iload_n (i := 2) dX10_says_47 rfl rfl ?_
              refine V.if_eq (tgt := 66) dX10_says_48 rfl (fun c48 => ?_) (fun c48 => ?_)
              · rw [fa_eq, show ((0 : Int32)).toInt = 0 from rfl] at c48
                first | (exfalso; omega) | exact absurd rfl c52 | exact absurd rfl c57
              · rw [fa_eq, show ((0 : Int32)).toInt = 0 from rfl] at c48
                refine V.iload_n (i := 3) dX10_says_51 rfl rfl ?_
                refine V.if_ne (tgt := 66) dX10_says_52 rfl (fun c52 => ?_) (fun c52 => ?_)
                · first | (exfalso; omega) | exact absurd rfl c52 | exact absurd rfl c57
                · refine V.iload (i := 4) dX10_says_55 rfl ?_
                  refine V.if_ne (tgt := 66) dX10_says_57 rfl (fun c57 => ?_) (fun c57 => ?_)
                  · first | (exfalso; omega) | exact absurd rfl c52 | exact absurd rfl c57
                  · refine V.aload_n (i := 0) dX10_says_60 rfl rfl ?_
                    refine V.iconst dX10_says_61 ic_1 ?_
                    refine V.cv1D (ci := 10) dX10_says_62 lk_X10_82 (by decide) rfl hR.F.x (k_finding hR _ (by decide) ⟨rfl, rfl⟩) (by decide) (by decide) (Nat.le_of_ble_eq_true rfl) (Nat.le_of_ble_eq_true rfl) (Nat.le_of_ble_eq_true rfl) ?_
                    refine V.iret dX10_says_65 (Nat.le_of_ble_eq_true rfl) (Nat.le_of_ble_eq_true rfl) ?_
                    exact puF hp (if_neg (fun z => hw z.2)) hR rfl
          · rw [fa_le, toI _ (by decide)] at c27
            refine V.iconst dX10_says_30 ic_1 ?_
            refine V.goto (tgt := 35) dX10_says_31 rfl ?_
            refine V.istore4 (by decide) dX10_says_35 ?_
            refine V.iload_n (i := 1) dX10_says_37 rfl rfl ?_
            refine V.sipush dX10_says_38 sc_10000 ?_
            refine V.cs2D dX10_says_41 lk_X10_96 (k_isBelowN _ 10000 (by decide) ⟨rfl, rfl⟩) (by decide) (by decide) (Nat.le_of_ble_eq_true rfl) (Nat.le_of_ble_eq_true rfl) (Nat.le_of_ble_eq_true rfl) ?_
            refine V.ifb_eq (tgt := 60) dX10_says_44 rfl (fun c44 => ?_) (fun c44 => ?_)
            · refine V.aload_n (i := 0) dX10_says_60 rfl rfl ?_
              refine V.iconst dX10_says_61 ic_1 ?_
              refine V.cv1D (ci := 10) dX10_says_62 lk_X10_82 (by decide) rfl hR.F.x (k_finding hR _ (by decide) ⟨rfl, rfl⟩) (by decide) (by decide) (Nat.le_of_ble_eq_true rfl) (Nat.le_of_ble_eq_true rfl) (Nat.le_of_ble_eq_true rfl) ?_
              refine V.iret dX10_says_65 (Nat.le_of_ble_eq_true rfl) (Nat.le_of_ble_eq_true rfl) ?_
              exact puF hp (if_neg (fun z => hw z.2)) hR rfl
            · refine V.iload_n (i := 2) dX10_says_47 rfl rfl ?_
              refine V.if_eq (tgt := 66) dX10_says_48 rfl (fun c48 => ?_) (fun c48 => ?_)
              · rw [fa_eq, show ((0 : Int32)).toInt = 0 from rfl] at c48
                first | (exfalso; omega) | exact absurd rfl c52 | exact absurd rfl c57
              · rw [fa_eq, show ((0 : Int32)).toInt = 0 from rfl] at c48
                refine V.iload_n (i := 3) dX10_says_51 rfl rfl ?_
                refine V.if_ne (tgt := 66) dX10_says_52 rfl (fun c52 => ?_) (fun c52 => ?_)
                · first | (exfalso; omega) | exact absurd rfl c52 | exact absurd rfl c57
                · refine V.iload (i := 4) dX10_says_55 rfl ?_
                  refine V.if_ne (tgt := 66) dX10_says_57 rfl (fun c57 => ?_) (fun c57 => ?_)
                  · first | (exfalso; omega) | exact absurd rfl c52 | exact absurd rfl c57
                  · refine V.aload_n (i := 0) dX10_says_60 rfl rfl ?_
                    refine V.iconst dX10_says_61 ic_1 ?_
                    refine V.cv1D (ci := 10) dX10_says_62 lk_X10_82 (by decide) rfl hR.F.x (k_finding hR _ (by decide) ⟨rfl, rfl⟩) (by decide) (by decide) (Nat.le_of_ble_eq_true rfl) (Nat.le_of_ble_eq_true rfl) (Nat.le_of_ble_eq_true rfl) ?_
                    refine V.iret dX10_says_65 (Nat.le_of_ble_eq_true rfl) (Nat.le_of_ble_eq_true rfl) ?_
                    exact puF hp (if_neg (fun z => hw z.2)) hR rfl
set_option maxRecDepth 100000 in
theorem k_rate (hR : Rp σ x P G) (hI : Inv G) (hp : PU x σ (s_rate G) post) : MX10_rate E 2 0 0 [.ref x] σ post := by
  refine MA.of RX10 "rate" [some (.ref x), none, none, none, none, none] rfl rfl rfl (catAll rfl) (Nat.le_of_ble_eq_true rfl) rfl (fun X => ?_)
  have hn := hI.lkN
  have ha : allR G ≤ nLk G * 10000 := smN_le (allR_le G) _
  have hbl : ∀ l, (if G 31 l = 0 then 0 else ptN G l) ≤ 10000 := fun l => by
    have := allR_le G l
    split <;> omega
  have hb : badR G ≤ nLk G * 10000 := smN_le hbl _
  have loop : ∀ m l, l + m = nLk G → ∀ v1 v2, v1 = nI (smN (fun l => if G 31 l = 0 then 0 else ptN G l) l) → v2 = nI (smN (ptN G) l) → ∀ l4 l5, V E X RX10 "rate" cX10_rate 6 (some .int) 2 0 0 (QM E X post 0 0) σ 0 0 6 [some (.ref x), some (.int v1), some (.int v2), some (.int (nI l)), l4, l5] [] := by
    intro m
    induction m with
    | zero =>
      intro l hl v1 v2 h1 h2 l4 l5
      have e1 : v1 = nI (badR G) := by rw [h1, badR, show l = nLk G by omega]
      have e2 : v2 = nI (allR G) := by rw [h2, allR, show l = nLk G by omega]
      refine V.iload_n (i := 3) dX10_rate_6 rfl rfl ?_
      refine V.aload_n (i := 0) dX10_rate_7 rfl rfl ?_
      refine V.geti dX10_rate_8 fl_X10_210 rfl hR.F.x ?_
      refine V.icmp_geT (tgt := 69) dX10_rate_11 rfl (lpT (hR.S.lkN.trans hn.1) (by omega) (by omega)) ?_
      refine V.iload_n (i := 2) dX10_rate_69 rfl rfl ?_
      refine V.if_ne (tgt := 81) dX10_rate_70 rfl (fun c70 => ?_) (fun c70 => ?_)
      · rw [e2, show (0 : Int32) = nI 0 from rfl, nI_eq (by omega) (by decide)] at c70
        refine V.iload_n (i := 1) dX10_rate_81 rfl rfl ?_
        refine V.sipush dX10_rate_82 sc_1000 ?_
        refine V.imul dX10_rate_85 ?_
        refine V.as (nI (1000 * badR G)) (by rw [e1, pk_mul, Nat.mul_comm]) ?_
        refine V.iload_n (i := 2) dX10_rate_86 rfl rfl ?_
        refine V.idiv dX10_rate_87 (by rw [e2, show (0 : Int32) = nI 0 from rfl, nI_eq (by omega) (by decide)]; exact c70) ?_
        refine V.as (nI (1000 * badR G / allR G)) (by rw [e2]; exact pk_div (by omega) (by omega) (by omega)) ?_
        refine V.iret dX10_rate_88 (Nat.le_of_ble_eq_true rfl) (Nat.le_of_ble_eq_true rfl) ?_
        first | exact pu hp (if_neg c70) hR rfl | exact puF hp (if_pos (by simpa using c70)) hR rfl
      · rw [e2, show (0 : Int32) = nI 0 from rfl, nI_eq (by omega) (by decide)] at c70
        refine V.aload_n (i := 0) dX10_rate_73 rfl rfl ?_
        refine V.iconst dX10_rate_74 ic_2 ?_
        refine V.cv1D (ci := 10) dX10_rate_75 lk_X10_82 (by decide) rfl hR.F.x (k_finding hR _ (by decide) ⟨rfl, rfl⟩) (by decide) (by decide) (Nat.le_of_ble_eq_true rfl) (Nat.le_of_ble_eq_true rfl) (Nat.le_of_ble_eq_true rfl) ?_
        refine V.goto (tgt := 88) dX10_rate_78 rfl ?_
        refine V.iret dX10_rate_88 (Nat.le_of_ble_eq_true rfl) (Nat.le_of_ble_eq_true rfl) ?_
        first | exact pu hp (if_neg c70) hR rfl | exact puF hp (if_pos (by simpa using c70)) hR rfl
    | succ m ih =>
      intro l hl v1 v2 h1 h2 l4 l5
      have hl2 : l < nLk G := by omega
      have hc := hI.lkC l hl2
      refine V.iload_n (i := 3) dX10_rate_6 rfl rfl ?_
      refine V.aload_n (i := 0) dX10_rate_7 rfl rfl ?_
      refine V.geti dX10_rate_8 fl_X10_210 rfl hR.F.x ?_
      refine V.icmp_geF (tgt := 69) dX10_rate_11 rfl (lpF (hR.S.lkN.trans hn.1) (by omega) (by omega)) ?_
      refine V.aload_n (i := 0) dX10_rate_14 rfl rfl ?_
      refine V.getS dX10_rate_15 fl_X10_30 rfl hR.F.x hR.F.looks.1 ?_
      refine V.iload_n (i := 3) dX10_rate_18 rfl rfl ?_
      refine V.aaldS (t := 34) dX10_rate_19 hR.F.looks.2 (by decide) (by decide) rfl (show _ < 60 from (by omega)) (by decide) (hR.L.at l hl2).1 ?_
      refine V.astore4 (by decide) dX10_rate_20 ?_
      refine V.aload (i := 4) dX10_rate_22 rfl ?_
      refine V.cv0D (ci := 2) dX10_rate_24 lk_X10_312 (by decide) rfl (hR.L.at l hl2).2 (k_isDrawn hR l hl2 ⟨rfl, rfl⟩) (by decide) (by decide) (Nat.le_of_ble_eq_true rfl) (Nat.le_of_ble_eq_true rfl) (Nat.le_of_ble_eq_true rfl) ?_
      refine V.ifb_eq (tgt := 63) dX10_rate_27 rfl (fun c27 => ?_) (fun c27 => ?_)
      · rw [hc.1, toI _ (by omega)] at c27
        have hz : ptN G l = 0 := by unfold ptN; rw [if_neg (by omega)]
        refine V.iinc3 (by decide) dX10_rate_63 (inc1 _) ?_
        refine V.goto (tgt := 6) dX10_rate_66 rfl ?_
        first | exact ih (l + 1) (by omega) _ _ (by rw [h1, smN, if_pos c52, nI_add]) (by rw [h2, nI_add, smN]) _ _ | exact ih (l + 1) (by omega) _ _ (by rw [h1, smN, if_neg c52, nI_add]) (by rw [h2, nI_add, smN]) _ _ | exact ih (l + 1) (by omega) _ _ (by rw [h1, smN, hz]; simp) (by rw [h2, smN, hz]; rfl) _ _
      · rw [hc.1, toI _ (by omega)] at c27
        refine V.sipush dX10_rate_30 sc_10000 ?_
        refine V.aload (i := 4) dX10_rate_33 rfl ?_
        refine V.geti dX10_rate_35 fl_X10_315 rfl (hR.L.at l hl2).2 ?_
        refine V.as _ ((hR.L.chance l hl2).trans hc.1) ?_
        refine V.idiv dX10_rate_38 (by rw [show (0 : Int32) = nI 0 from rfl, nI_eq (by omega) (by decide)]; omega) ?_
        refine V.as (nI (ptN G l)) (by unfold ptN; rw [if_pos (by omega)]; exact pk_div (by decide) (by omega) (by omega)) ?_
        refine V.istore5 (by decide) dX10_rate_39 ?_
        refine V.iload_n (i := 2) dX10_rate_41 rfl rfl ?_
        refine V.iload (i := 5) dX10_rate_42 rfl ?_
        refine V.iadd dX10_rate_44 ?_
        refine V.istore_n2 (by decide) dX10_rate_45 ?_
        refine V.iload_n (i := 1) dX10_rate_46 rfl rfl ?_
        refine V.aload (i := 4) dX10_rate_47 rfl ?_
        refine V.geti dX10_rate_49 fl_X10_242 rfl (hR.L.at l hl2).2 ?_
        refine V.as _ (hR.L.hold l hl2) ?_
        refine V.if_eq (tgt := 60) dX10_rate_52 rfl (fun c52 => ?_) (fun c52 => ?_)
        · refine V.iconst dX10_rate_60 ic_0 ?_
          refine V.iadd dX10_rate_61 ?_
          refine V.istore_n1 (by decide) dX10_rate_62 ?_
          refine V.iinc3 (by decide) dX10_rate_63 (inc1 _) ?_
          refine V.goto (tgt := 6) dX10_rate_66 rfl ?_
          first | exact ih (l + 1) (by omega) _ _ (by rw [h1, smN, if_pos c52, nI_add]) (by rw [h2, nI_add, smN]) _ _ | exact ih (l + 1) (by omega) _ _ (by rw [h1, smN, if_neg c52, nI_add]) (by rw [h2, nI_add, smN]) _ _ | exact ih (l + 1) (by omega) _ _ (by rw [h1, smN, hz]; simp) (by rw [h2, smN, hz]; rfl) _ _
        · refine V.iload (i := 5) dX10_rate_55 rfl ?_
          refine V.goto (tgt := 61) dX10_rate_57 rfl ?_
          refine V.iadd dX10_rate_61 ?_
          refine V.istore_n1 (by decide) dX10_rate_62 ?_
          refine V.iinc3 (by decide) dX10_rate_63 (inc1 _) ?_
          refine V.goto (tgt := 6) dX10_rate_66 rfl ?_
          first | exact ih (l + 1) (by omega) _ _ (by rw [h1, smN, if_pos c52, nI_add]) (by rw [h2, nI_add, smN]) _ _ | exact ih (l + 1) (by omega) _ _ (by rw [h1, smN, if_neg c52, nI_add]) (by rw [h2, nI_add, smN]) _ _ | exact ih (l + 1) (by omega) _ _ (by rw [h1, smN, hz]; simp) (by rw [h2, smN, hz]; rfl) _ _
  refine V.iconst dX10_rate_0 ic_0 ?_
  refine V.istore_n1 (by decide) dX10_rate_1 ?_
  refine V.iconst dX10_rate_2 ic_0 ?_
  refine V.istore_n2 (by decide) dX10_rate_3 ?_
  refine V.iconst dX10_rate_4 ic_0 ?_
  refine V.istore_n3 (by decide) dX10_rate_5 ?_
  exact loop (nLk G) 0 (by omega) _ _ rfl rfl _ _
set_option maxRecDepth 100000 in
theorem k_were (hR : Rp σ x P G) (hI : Inv G) (a b : Int32) (hp : PU x σ (s_were G a b) post) : MX10_were E 3 0 0 [.ref x, .int a, .int b] σ post := by
  refine MA.of RX10 "were" [some (.ref x), some (.int a), some (.int b), none, none, none] rfl rfl rfl (catAll rfl) (Nat.le_of_ble_eq_true rfl) rfl (fun X => ?_)
  have h60 := hI.lkN.2
  by_cases hs : (0 ≤ a.toInt ∧ a.toInt < nLk G)
  · obtain ⟨i, hi, rfl⟩ := idxOf hs
    by_cases hs2 : (0 ≤ b.toInt ∧ b.toInt < nLk G)
    · obtain ⟨j, hj, rfl⟩ := idxOf hs2
      have fi := hI.lkF i hi
      have fj := hI.lkF j hj
      have hz : s_were G (nI i) (nI j) = (if dbl G i j then (if cnt10 (gN G 30 i &&& gN G 30 j) = 0 then fnd G 2 else (nI (cnt10 (gN G 30 i) * cnt10 (gN G 30 j) / cnt10 (gN G 30 i &&& gN G 30 j)), G)) else fnd G 3) := by
        unfold s_were
        rw [show tn (nI i) = i from tn_nI (by omega), show tn (nI j) = j from tn_nI (by omega), if_pos (by omega)]
      have hc := cnt10_le (gN G 30 i &&& gN G 30 j)
      have hci := cnt10_le (gN G 30 i)
      have hcj := cnt10_le (gN G 30 j)
      have hm : cnt10 (gN G 30 i) * cnt10 (gN G 30 j) ≤ 100 := Nat.mul_le_mul hci hcj
      refine V.aload_n (i := 0) dX10_were_0 rfl rfl ?_
      refine V.iload_n (i := 1) dX10_were_1 rfl rfl ?_
      refine V.cv1D (ci := 10) dX10_were_2 lk_X10_226 (by decide) rfl hR.F.x (k_lookAtY hR hI i hi ⟨rfl, rfl⟩) (by decide) (by decide) (Nat.le_of_ble_eq_true rfl) (Nat.le_of_ble_eq_true rfl) (Nat.le_of_ble_eq_true rfl) ?_
      refine V.astore_n3 (by decide) dX10_were_5 ?_
      refine V.aload_n (i := 0) dX10_were_6 rfl rfl ?_
      refine V.iload_n (i := 2) dX10_were_7 rfl rfl ?_
      refine V.cv1D (ci := 10) dX10_were_8 lk_X10_226 (by decide) rfl hR.F.x (k_lookAtY hR hI j hj ⟨rfl, rfl⟩) (by decide) (by decide) (Nat.le_of_ble_eq_true rfl) (Nat.le_of_ble_eq_true rfl) (Nat.le_of_ble_eq_true rfl) ?_
      refine V.astore4 (by decide) dX10_were_11 ?_
      refine V.aload_n (i := 3) dX10_were_13 rfl rfl ?_
      refine V.ifnull dX10_were_14 ?_
      refine V.aload (i := 4) dX10_were_17 rfl ?_
      refine V.ifnonnull (tgt := 28) dX10_were_19 rfl ?_
      refine V.aload_n (i := 3) dX10_were_28 rfl rfl ?_
      refine V.aload (i := 4) dX10_were_29 rfl ?_
      refine V.cv1D (ci := 2) dX10_were_31 lk_X10_303 (by decide) rfl (hR.L.at i hi).2 (k_isDoubleOf hR hI i j hi hj ⟨rfl, rfl⟩) (by decide) (by decide) (Nat.le_of_ble_eq_true rfl) (Nat.le_of_ble_eq_true rfl) (Nat.le_of_ble_eq_true rfl) ?_
      refine V.ifb_ne (tgt := 43) dX10_were_34 rfl (fun c34 => ?_) (fun c34 => ?_)
      · refine V.aload_n (i := 3) dX10_were_43 rfl rfl ?_
        refine V.geti dX10_were_44 fl_X10_239 rfl (hR.L.at i hi).2 ?_
        refine V.as _ ((hR.L.flt i hi).trans fi.1) ?_
        refine V.aload (i := 4) dX10_were_47 rfl ?_
        refine V.geti dX10_were_49 fl_X10_239 rfl (hR.L.at j hj).2 ?_
        refine V.as _ ((hR.L.flt j hj).trans fj.1) ?_
        refine V.iand dX10_were_52 ?_
        refine V.as _ (fa_and _ _) ?_
        refine V.cs1D dX10_were_53 lk_X10_307 (k_bitCount10 _ (Nat.lt_of_le_of_lt Nat.and_le_left fi.2) ⟨rfl, rfl⟩) (by decide) (by decide) (Nat.le_of_ble_eq_true rfl) (Nat.le_of_ble_eq_true rfl) (Nat.le_of_ble_eq_true rfl) ?_
        refine V.istore5 (by decide) dX10_were_56 ?_
        refine V.iload (i := 5) dX10_were_58 rfl ?_
        refine V.if_ne (tgt := 69) dX10_were_60 rfl (fun c60 => ?_) (fun c60 => ?_)
        · rw [show (0 : Int32) = nI 0 from rfl, nI_eq (by omega) (by decide)] at c60
          refine V.aload_n (i := 3) dX10_were_69 rfl rfl ?_
          refine V.geti dX10_were_70 fl_X10_239 rfl (hR.L.at i hi).2 ?_
          refine V.as _ ((hR.L.flt i hi).trans fi.1) ?_
          refine V.cs1D dX10_were_73 lk_X10_307 (k_bitCount10 _ fi.2 ⟨rfl, rfl⟩) (by decide) (by decide) (Nat.le_of_ble_eq_true rfl) (Nat.le_of_ble_eq_true rfl) (Nat.le_of_ble_eq_true rfl) ?_
          refine V.aload (i := 4) dX10_were_76 rfl ?_
          refine V.geti dX10_were_78 fl_X10_239 rfl (hR.L.at j hj).2 ?_
          refine V.as _ ((hR.L.flt j hj).trans fj.1) ?_
          refine V.cs1D dX10_were_81 lk_X10_307 (k_bitCount10 _ fj.2 ⟨rfl, rfl⟩) (by decide) (by decide) (Nat.le_of_ble_eq_true rfl) (Nat.le_of_ble_eq_true rfl) (Nat.le_of_ble_eq_true rfl) ?_
          refine V.imul dX10_were_84 ?_
          refine V.as _ (pk_mul _ _) ?_
          refine V.iload (i := 5) dX10_were_85 rfl ?_
          refine V.idiv dX10_were_87 (by rw [show (0 : Int32) = nI 0 from rfl, nI_eq (by omega) (by decide)]; exact c60) ?_
          refine V.as _ (pk_div (by omega) (by omega) (by omega)) ?_
          refine V.iret dX10_were_88 (Nat.le_of_ble_eq_true rfl) (Nat.le_of_ble_eq_true rfl) ?_
          exact pu hp (hz.trans ((if_pos c34).trans (if_neg c60))) hR rfl
        · rw [show (0 : Int32) = nI 0 from rfl, nI_eq (by omega) (by decide)] at c60
          refine V.aload_n (i := 0) dX10_were_63 rfl rfl ?_
          refine V.iconst dX10_were_64 ic_2 ?_
          refine V.cv1D (ci := 10) dX10_were_65 lk_X10_82 (by decide) rfl hR.F.x (k_finding hR _ (by decide) ⟨rfl, rfl⟩) (by decide) (by decide) (Nat.le_of_ble_eq_true rfl) (Nat.le_of_ble_eq_true rfl) (Nat.le_of_ble_eq_true rfl) ?_
          refine V.iret dX10_were_68 (Nat.le_of_ble_eq_true rfl) (Nat.le_of_ble_eq_true rfl) ?_
          exact puF hp (hz.trans ((if_pos c34).trans (if_pos (by simpa using c60)))) hR rfl
      · refine V.aload_n (i := 0) dX10_were_37 rfl rfl ?_
        refine V.iconst dX10_were_38 ic_3 ?_
        refine V.cv1D (ci := 10) dX10_were_39 lk_X10_82 (by decide) rfl hR.F.x (k_finding hR _ (by decide) ⟨rfl, rfl⟩) (by decide) (by decide) (Nat.le_of_ble_eq_true rfl) (Nat.le_of_ble_eq_true rfl) (Nat.le_of_ble_eq_true rfl) ?_
        refine V.iret dX10_were_42 (Nat.le_of_ble_eq_true rfl) (Nat.le_of_ble_eq_true rfl) ?_
        exact puF hp (hz.trans (if_neg c34)) hR rfl
    · skip
      refine V.aload_n (i := 0) dX10_were_0 rfl rfl ?_
      refine V.iload_n (i := 1) dX10_were_1 rfl rfl ?_
      refine V.cv1D (ci := 10) dX10_were_2 lk_X10_226 (by decide) rfl hR.F.x (k_lookAtY hR hI i hi ⟨rfl, rfl⟩) (by decide) (by decide) (Nat.le_of_ble_eq_true rfl) (Nat.le_of_ble_eq_true rfl) (Nat.le_of_ble_eq_true rfl) ?_
      refine V.astore_n3 (by decide) dX10_were_5 ?_
      refine V.aload_n (i := 0) dX10_were_6 rfl rfl ?_
      refine V.iload_n (i := 2) dX10_were_7 rfl rfl ?_
      refine V.cv1D (ci := 10) dX10_were_8 lk_X10_226 (by decide) rfl hR.F.x (k_lookAtN hR hI b hs2 ⟨rfl, rfl⟩) (by decide) (by decide) (Nat.le_of_ble_eq_true rfl) (Nat.le_of_ble_eq_true rfl) (Nat.le_of_ble_eq_true rfl) ?_
      refine V.astore4N (by decide) dX10_were_11 ?_
      refine V.aload_n (i := 3) dX10_were_13 rfl rfl ?_
      refine V.ifnull dX10_were_14 ?_
      refine V.aloadN (i := 4) dX10_were_17 rfl ?_
      refine V.ifnonnullN dX10_were_19 ?_
      refine V.aload_n (i := 0) dX10_were_22 rfl rfl ?_
      refine V.iconst dX10_were_23 ic_1 ?_
      refine V.cv1D (ci := 10) dX10_were_24 lk_X10_82 (by decide) rfl hR.F.x (k_finding hR _ (by decide) ⟨rfl, rfl⟩) (by decide) (by decide) (Nat.le_of_ble_eq_true rfl) (Nat.le_of_ble_eq_true rfl) (Nat.le_of_ble_eq_true rfl) ?_
      refine V.iret dX10_were_27 (Nat.le_of_ble_eq_true rfl) (Nat.le_of_ble_eq_true rfl) ?_
      exact puF hp (if_neg (fun z => hs2 z.2)) hR rfl
  · by_cases hs2 : (0 ≤ b.toInt ∧ b.toInt < nLk G)
    · obtain ⟨j, hj, rfl⟩ := idxOf hs2
      refine V.aload_n (i := 0) dX10_were_0 rfl rfl ?_
      refine V.iload_n (i := 1) dX10_were_1 rfl rfl ?_
      refine V.cv1D (ci := 10) dX10_were_2 lk_X10_226 (by decide) rfl hR.F.x (k_lookAtN hR hI a hs ⟨rfl, rfl⟩) (by decide) (by decide) (Nat.le_of_ble_eq_true rfl) (Nat.le_of_ble_eq_true rfl) (Nat.le_of_ble_eq_true rfl) ?_
      refine V.astore_n3N (by decide) dX10_were_5 ?_
      refine V.aload_n (i := 0) dX10_were_6 rfl rfl ?_
      refine V.iload_n (i := 2) dX10_were_7 rfl rfl ?_
      refine V.cv1D (ci := 10) dX10_were_8 lk_X10_226 (by decide) rfl hR.F.x (k_lookAtY hR hI j hj ⟨rfl, rfl⟩) (by decide) (by decide) (Nat.le_of_ble_eq_true rfl) (Nat.le_of_ble_eq_true rfl) (Nat.le_of_ble_eq_true rfl) ?_
      refine V.astore4 (by decide) dX10_were_11 ?_
      refine V.aload_nN (i := 3) dX10_were_13 rfl rfl ?_
      refine V.ifnullN (tgt := 22) dX10_were_14 rfl ?_
      refine V.aload_n (i := 0) dX10_were_22 rfl rfl ?_
      refine V.iconst dX10_were_23 ic_1 ?_
      refine V.cv1D (ci := 10) dX10_were_24 lk_X10_82 (by decide) rfl hR.F.x (k_finding hR _ (by decide) ⟨rfl, rfl⟩) (by decide) (by decide) (Nat.le_of_ble_eq_true rfl) (Nat.le_of_ble_eq_true rfl) (Nat.le_of_ble_eq_true rfl) ?_
      refine V.iret dX10_were_27 (Nat.le_of_ble_eq_true rfl) (Nat.le_of_ble_eq_true rfl) ?_
      exact puF hp (if_neg (fun z => hs z.1)) hR rfl
    · skip
      refine V.aload_n (i := 0) dX10_were_0 rfl rfl ?_
      refine V.iload_n (i := 1) dX10_were_1 rfl rfl ?_
      refine V.cv1D (ci := 10) dX10_were_2 lk_X10_226 (by decide) rfl hR.F.x (k_lookAtN hR hI a hs ⟨rfl, rfl⟩) (by decide) (by decide) (Nat.le_of_ble_eq_true rfl) (Nat.le_of_ble_eq_true rfl) (Nat.le_of_ble_eq_true rfl) ?_
      refine V.astore_n3N (by decide) dX10_were_5 ?_
      refine V.aload_n (i := 0) dX10_were_6 rfl rfl ?_
      refine V.iload_n (i := 2) dX10_were_7 rfl rfl ?_
      refine V.cv1D (ci := 10) dX10_were_8 lk_X10_226 (by decide) rfl hR.F.x (k_lookAtN hR hI b hs2 ⟨rfl, rfl⟩) (by decide) (by decide) (Nat.le_of_ble_eq_true rfl) (Nat.le_of_ble_eq_true rfl) (Nat.le_of_ble_eq_true rfl) ?_
      refine V.astore4N (by decide) dX10_were_11 ?_
      refine V.aload_nN (i := 3) dX10_were_13 rfl rfl ?_
      refine V.ifnullN (tgt := 22) dX10_were_14 rfl ?_
      refine V.aload_n (i := 0) dX10_were_22 rfl rfl ?_
      refine V.iconst dX10_were_23 ic_1 ?_
      refine V.cv1D (ci := 10) dX10_were_24 lk_X10_82 (by decide) rfl hR.F.x (k_finding hR _ (by decide) ⟨rfl, rfl⟩) (by decide) (by decide) (Nat.le_of_ble_eq_true rfl) (Nat.le_of_ble_eq_true rfl) (Nat.le_of_ble_eq_true rfl) ?_
      refine V.iret dX10_were_27 (Nat.le_of_ble_eq_true rfl) (Nat.le_of_ble_eq_true rfl) ?_
      exact puF hp (if_neg (fun z => hs z.1)) hR rfl
set_option maxRecDepth 100000 in
theorem k_habit (hR : Rp σ x P G) (hI : Inv G) (b : Int32) (hp : PU x σ (s_habit G b) post) : MX10_habit E 2 0 0 [.ref x, .int b] σ post := by
  refine MA.of RX10 "habit" [some (.ref x), some (.int b), none, none, none, none, none, none] rfl rfl rfl (catAll rfl) (Nat.le_of_ble_eq_true rfl) rfl (fun X => ?_)
  have hn := hI.lkN
  have hfb : ∀ x y, fBoth G x y ≤ 10 := fun x y => cnt10_le _
  have hfo : ∀ x y, fOther G x y ≤ 10 := fun x y => cnt10_le _
  have hb1 : ∀ f, (∀ x y, f x y ≤ 10) → ∀ n a, n ≤ 60 → smN (hbt G b f a) n ≤ 600 := fun f hf n a h => Nat.le_trans (smN_le (hbt_le hf a) n) (by omega)
  have hb2 : ∀ f, (∀ x y, f x y ≤ 10) → hbtS G b f ≤ 36000 := fun f hf => Nat.le_trans (smN_le (fun a => hb1 f hf _ a hn.2) _) (by omega)
  have outer : (0 ≤ b.toInt ∧ b.toInt ≤ 5) → ∀ m a, a + m = nLk G → ∀ v2 v3, v2 = nI (smN (fun a => smN (hbt G b (fBoth G) a) (nLk G)) a) → v3 = nI (smN (fun a => smN (hbt G b (fOther G) a) (nLk G)) a) → ∀ l5 l6 l7, V E X RX10 "habit" cX10_habit 8 (some .int) 2 0 0 (QM E X post 0 0) σ 0 0 22 [some (.ref x), some (.int b), some (.int v2), some (.int v3), some (.int (nI a)), l5, l6, l7] [] := by
    intro hbb m
    induction m with
    | zero =>
      intro a ha v2 v3 h2 h3 l5 l6 l7
      rw [show a = nLk G by omega] at h2 h3 ⊢
      have e2 : v2 = nI (hbtS G b (fBoth G)) := h2
      have e3 : v3 = nI (hbtS G b (fOther G)) := h3
      subst e2
      subst e3
      have q1 := hb2 _ hfb
      have q2 := hb2 _ hfo
      refine V.iload (i := 4) dX10_habit_22 rfl ?_
      refine V.aload_n (i := 0) dX10_habit_24 rfl rfl ?_
      refine V.geti dX10_habit_25 fl_X10_210 rfl hR.F.x ?_
      refine V.icmp_geT (tgt := 123) dX10_habit_28 rfl (lpT (hR.S.lkN.trans hn.1) (by omega) (by omega)) ?_
      refine V.iload_n (i := 3) dX10_habit_123 rfl rfl ?_
      refine V.if_ne (tgt := 135) dX10_habit_124 rfl (fun c124 => ?_) (fun c124 => ?_)
      · rw [show (0 : Int32) = nI 0 from rfl, nI_eq (by omega) (by decide)] at c124
        refine V.bipush dX10_habit_135 bc_100 ?_
        refine V.iload_n (i := 2) dX10_habit_137 rfl rfl ?_
        refine V.imul dX10_habit_138 ?_
        refine V.as _ (pk_mul _ _) ?_
        refine V.iload_n (i := 3) dX10_habit_139 rfl rfl ?_
        refine V.idiv dX10_habit_140 (by rw [show (0 : Int32) = nI 0 from rfl, nI_eq (by omega) (by decide)]; exact c124) ?_
        refine V.as _ (pk_div (by omega) (by omega) (by omega)) ?_
        refine V.iret dX10_habit_141 (Nat.le_of_ble_eq_true rfl) (Nat.le_of_ble_eq_true rfl) ?_
        first | exact pu hp ((if_pos hbb).trans (if_neg c124)) hR rfl | exact puF hp ((if_pos hbb).trans (if_pos (by simpa using c124))) hR rfl
      · rw [show (0 : Int32) = nI 0 from rfl, nI_eq (by omega) (by decide)] at c124
        refine V.aload_n (i := 0) dX10_habit_127 rfl rfl ?_
        refine V.iconst dX10_habit_128 ic_2 ?_
        refine V.cv1D (ci := 10) dX10_habit_129 lk_X10_82 (by decide) rfl hR.F.x (k_finding hR _ (by decide) ⟨rfl, rfl⟩) (by decide) (by decide) (Nat.le_of_ble_eq_true rfl) (Nat.le_of_ble_eq_true rfl) (Nat.le_of_ble_eq_true rfl) ?_
        refine V.goto (tgt := 141) dX10_habit_132 rfl ?_
        refine V.iret dX10_habit_141 (Nat.le_of_ble_eq_true rfl) (Nat.le_of_ble_eq_true rfl) ?_
        first | exact pu hp ((if_pos hbb).trans (if_neg c124)) hR rfl | exact puF hp ((if_pos hbb).trans (if_pos (by simpa using c124))) hR rfl
    | succ m ih =>
      intro a ha v2 v3 h2 h3 l5 l6 l7
      have ha2 : a < nLk G := by omega
      have inner : G 28 a = b → ∀ m y, y + m = nLk G → ∀ v2 v3, v2 = nI (smN (fun a => smN (hbt G b (fBoth G) a) (nLk G)) a + smN (hbt G b (fBoth G) a) y) → v3 = nI (smN (fun a => smN (hbt G b (fOther G) a) (nLk G)) a + smN (hbt G b (fOther G) a) y) → ∀ l7, V E X RX10 "habit" cX10_habit 8 (some .int) 2 0 0 (QM E X post 0 0) σ 0 0 55 [some (.ref x), some (.int b), some (.int v2), some (.int v3), some (.int (nI a)), some (.ref (P 6 a)), some (.int (nI y)), l7] [] := by
        intro hb6 m
        induction m with
        | zero =>
          intro y hy v2 v3 h2 h3 l7
          rw [show y = nLk G by omega] at h2 h3
          refine V.iload (i := 6) dX10_habit_55 rfl ?_
          refine V.aload_n (i := 0) dX10_habit_57 rfl rfl ?_
          refine V.geti dX10_habit_58 fl_X10_210 rfl hR.F.x ?_
          refine V.icmp_geT (tgt := 117) dX10_habit_61 rfl (lpT (hR.S.lkN.trans hn.1) (by omega) (by omega)) ?_
          refine V.iinc4 (by decide) dX10_habit_117 (inc1 _) ?_
          refine V.goto (tgt := 22) dX10_habit_120 rfl ?_
          exact ih (a + 1) (by omega) _ _ h2 h3 _ _ _
        | succ m ih2 =>
          intro y hy v2 v3 h2 h3 l7
          have hy2 : y < nLk G := by omega
          have fi := hI.lkF a ha2
          have fj := hI.lkF y hy2
          refine V.iload (i := 6) dX10_habit_55 rfl ?_
          refine V.aload_n (i := 0) dX10_habit_57 rfl rfl ?_
          refine V.geti dX10_habit_58 fl_X10_210 rfl hR.F.x ?_
          refine V.icmp_geF (tgt := 117) dX10_habit_61 rfl (lpF (hR.S.lkN.trans hn.1) (by omega) (by omega)) ?_
          refine V.aload_n (i := 0) dX10_habit_64 rfl rfl ?_
          refine V.getS dX10_habit_65 fl_X10_30 rfl hR.F.x hR.F.looks.1 ?_
          refine V.iload (i := 6) dX10_habit_68 rfl ?_
          refine V.aaldS (t := 34) dX10_habit_70 hR.F.looks.2 (by decide) (by decide) rfl (show _ < 60 from (by omega)) (by decide) (hR.L.at y hy2).1 ?_
          refine V.astore7 (by decide) dX10_habit_71 ?_
          refine V.aload (i := 5) dX10_habit_73 rfl ?_
          refine V.aload (i := 7) dX10_habit_75 rfl ?_
          refine V.cv1D (ci := 2) dX10_habit_77 lk_X10_303 (by decide) rfl (hR.L.at a ha2).2 (k_isDoubleOf hR hI a y ha2 hy2 ⟨rfl, rfl⟩) (by decide) (by decide) (Nat.le_of_ble_eq_true rfl) (Nat.le_of_ble_eq_true rfl) (Nat.le_of_ble_eq_true rfl) ?_
          refine V.ifb_eq (tgt := 111) dX10_habit_80 rfl (fun c80 => ?_) (fun c80 => ?_)
          · refine V.iinc6 (by decide) dX10_habit_111 (inc1 _) ?_
            refine V.goto (tgt := 55) dX10_habit_114 rfl ?_
            first | exact ih2 (y + 1) (by omega) _ _ (by rw [h2, nI_add, smN, hbt, if_pos ⟨hb6, c80⟩, Nat.add_assoc]; rfl) (by rw [h3, nI_add, smN, hbt, if_pos ⟨hb6, c80⟩, Nat.add_assoc]; rfl) _ | exact ih2 (y + 1) (by omega) _ _ (by rw [h2, smN, hbt, if_neg (fun z => c80 z.2), Nat.add_zero]) (by rw [h3, smN, hbt, if_neg (fun z => c80 z.2), Nat.add_zero]) _
          · refine V.iload_n (i := 2) dX10_habit_83 rfl rfl ?_
            refine V.aload (i := 5) dX10_habit_84 rfl ?_
            refine V.geti dX10_habit_86 fl_X10_239 rfl (hR.L.at a ha2).2 ?_
            refine V.as _ ((hR.L.flt a ha2).trans fi.1) ?_
            refine V.aload (i := 7) dX10_habit_89 rfl ?_
            refine V.geti dX10_habit_91 fl_X10_239 rfl (hR.L.at y hy2).2 ?_
            refine V.as _ ((hR.L.flt y hy2).trans fj.1) ?_
            refine V.iand dX10_habit_94 ?_
            refine V.as _ (fa_and _ _) ?_
            refine V.cs1D dX10_habit_95 lk_X10_307 (k_bitCount10 _ (Nat.lt_of_le_of_lt Nat.and_le_left fi.2) ⟨rfl, rfl⟩) (by decide) (by decide) (Nat.le_of_ble_eq_true rfl) (Nat.le_of_ble_eq_true rfl) (Nat.le_of_ble_eq_true rfl) ?_
            refine V.iadd dX10_habit_98 ?_
            refine V.istore_n2 (by decide) dX10_habit_99 ?_
            refine V.iload_n (i := 3) dX10_habit_100 rfl rfl ?_
            refine V.aload (i := 7) dX10_habit_101 rfl ?_
            refine V.geti dX10_habit_103 fl_X10_239 rfl (hR.L.at y hy2).2 ?_
            refine V.as _ ((hR.L.flt y hy2).trans fj.1) ?_
            refine V.cs1D dX10_habit_106 lk_X10_307 (k_bitCount10 _ fj.2 ⟨rfl, rfl⟩) (by decide) (by decide) (Nat.le_of_ble_eq_true rfl) (Nat.le_of_ble_eq_true rfl) (Nat.le_of_ble_eq_true rfl) ?_
            refine V.iadd dX10_habit_109 ?_
            refine V.istore_n3 (by decide) dX10_habit_110 ?_
            refine V.iinc6 (by decide) dX10_habit_111 (inc1 _) ?_
            refine V.goto (tgt := 55) dX10_habit_114 rfl ?_
            first | exact ih2 (y + 1) (by omega) _ _ (by rw [h2, nI_add, smN, hbt, if_pos ⟨hb6, c80⟩, Nat.add_assoc]; rfl) (by rw [h3, nI_add, smN, hbt, if_pos ⟨hb6, c80⟩, Nat.add_assoc]; rfl) _ | exact ih2 (y + 1) (by omega) _ _ (by rw [h2, smN, hbt, if_neg (fun z => c80 z.2), Nat.add_zero]) (by rw [h3, smN, hbt, if_neg (fun z => c80 z.2), Nat.add_zero]) _
      refine V.iload (i := 4) dX10_habit_22 rfl ?_
      refine V.aload_n (i := 0) dX10_habit_24 rfl rfl ?_
      refine V.geti dX10_habit_25 fl_X10_210 rfl hR.F.x ?_
      refine V.icmp_geF (tgt := 123) dX10_habit_28 rfl (lpF (hR.S.lkN.trans hn.1) (by omega) (by omega)) ?_
      refine V.aload_n (i := 0) dX10_habit_31 rfl rfl ?_
      refine V.getS dX10_habit_32 fl_X10_30 rfl hR.F.x hR.F.looks.1 ?_
      refine V.iload (i := 4) dX10_habit_35 rfl ?_
      refine V.aaldS (t := 34) dX10_habit_37 hR.F.looks.2 (by decide) (by decide) rfl (show _ < 60 from (by omega)) (by decide) (hR.L.at a ha2).1 ?_
      refine V.astore5 (by decide) dX10_habit_38 ?_
      refine V.aload (i := 5) dX10_habit_40 rfl ?_
      refine V.geti dX10_habit_42 fl_X10_233 rfl (hR.L.at a ha2).2 ?_
      refine V.as _ (hR.L.by_ a ha2) ?_
      refine V.iload_n (i := 1) dX10_habit_45 rfl rfl ?_
      refine V.icmp_eq (tgt := 52) dX10_habit_46 rfl (fun c46 => ?_) (fun c46 => ?_)
      · refine V.iconst dX10_habit_52 ic_0 ?_
        refine V.istore6 (by decide) dX10_habit_53 ?_
        exact inner c46 (nLk G) 0 (by omega) _ _ (by rw [h2]; rfl) (by rw [h3]; rfl) _
      · have hz : ∀ f, smN (hbt G b f a) (nLk G) = 0 := fun f => smN_zero.mpr (fun k _ => if_neg (fun z => c46 z.1))
        refine V.goto (tgt := 117) dX10_habit_49 rfl ?_
        refine V.iinc4 (by decide) dX10_habit_117 (inc1 _) ?_
        refine V.goto (tgt := 22) dX10_habit_120 rfl ?_
        exact ih (a + 1) (by omega) _ _ (by rw [h2, smN, hz]; rfl) (by rw [h3, smN, hz]; rfl) _ _ _
  refine V.iload_n (i := 1) dX10_habit_0 rfl rfl ?_
  refine V.bipush dX10_habit_1 bc_6 ?_
  refine V.cs2D dX10_habit_3 lk_X10_96 (k_isBelowN _ 6 (by decide) ⟨rfl, rfl⟩) (by decide) (by decide) (Nat.le_of_ble_eq_true rfl) (Nat.le_of_ble_eq_true rfl) (Nat.le_of_ble_eq_true rfl) ?_
  refine V.ifb_ne (tgt := 15) dX10_habit_6 rfl (fun c6 => ?_) (fun c6 => ?_)
  · refine V.iconst dX10_habit_15 ic_0 ?_
    refine V.istore_n2 (by decide) dX10_habit_16 ?_
    refine V.iconst dX10_habit_17 ic_0 ?_
    refine V.istore_n3 (by decide) dX10_habit_18 ?_
    refine V.iconst dX10_habit_19 ic_0 ?_
    refine V.istore4 (by decide) dX10_habit_20 ?_
    exact outer (by omega) (nLk G) 0 (by omega) _ _ rfl rfl _ _ _
  · refine V.aload_n (i := 0) dX10_habit_9 rfl rfl ?_
    refine V.iconst dX10_habit_10 ic_1 ?_
    refine V.cv1D (ci := 10) dX10_habit_11 lk_X10_82 (by decide) rfl hR.F.x (k_finding hR _ (by decide) ⟨rfl, rfl⟩) (by decide) (by decide) (Nat.le_of_ble_eq_true rfl) (Nat.le_of_ble_eq_true rfl) (Nat.le_of_ble_eq_true rfl) ?_
    refine V.iret dX10_habit_14 (Nat.le_of_ble_eq_true rfl) (Nat.le_of_ble_eq_true rfl) ?_
    exact puF hp (if_neg (by omega)) hR rfl
end CLS7

