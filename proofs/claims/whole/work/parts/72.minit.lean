/-! ===== the model: its making ===== -/
def mFs : List Nat := [2, 3, 4, 5, 7, 8, 9, 11, 12, 14, 15, 16, 17, 18, 20, 22, 23, 24, 25, 27, 28, 29, 30, 31, 32, 34, 36, 37, 38, 40, 41, 43, 44, 45, 46]
def mF (n : Nat) : Nat := mFs.getD n 0
def mJ (k : Nat) : Nat := mFs.idxOf k
/-- the state after n of the model's rows were made: σ0 the state at the beginning, m the model, v its 35th number -/
def MI (σ0 : Sg) (m n : Nat) (v : Int32) (τ : Sg) : Prop :=
  sN τ = sN σ0 + n ∧ (∀ b, sT τ b = if sN σ0 ≤ b ∧ b < sN σ0 + n then 100 + mF (b - sN σ0) else sT σ0 b) ∧ (∀ j, j < n → sR τ 12 m (mF j) = some (sN σ0 + j)) ∧ (∀ j, j < n → ∀ i, sI τ (100 + mF j) (sN σ0 + j) i = 0) ∧
  (∀ t a k, a < sN σ0 → ¬ (t = 12 ∧ a = m) → sI τ t a k = sI σ0 t a k ∧ sR τ t a k = sR σ0 t a k) ∧ (∀ k, k ≠ 35 → sI τ 12 m k = sI σ0 12 m k) ∧ sI τ 12 m 35 = v ∧ sG τ = sG σ0
section MINIT
variable {E : VE} {σ σ0 τ : Sg} {post : Option Value → Sg → Prop} {m n : Nat} {v : Int32}
theorem mF_inj : ∀ i, i < 35 → ∀ j, j < 35 → mF i = mF j → i = j := by decide +kernel
theorem MI.zero : MI σ m 0 (sI σ 12 m 35) σ := ⟨rfl, fun b => by rw [if_neg (by omega)], fun j h => absurd h (by omega), fun j h => absurd h (by omega), fun _ _ _ _ _ => ⟨rfl, rfl⟩, fun _ _ => rfl, rfl, rfl⟩
theorem MI.ty (h : MI σ0 m n v τ) (hm : sT σ0 m = 12) (hlt : m < sN σ0) (t : Nat) : sT (wN τ t) m = 12 := by
  rw [sT_wN, h.1, if_neg (by omega), h.2.1, if_neg (by omega)]; exact hm
theorem MI.ty0 (h : MI σ0 m n v τ) (hm : sT σ0 m = 12) (hlt : m < sN σ0) : sT τ m = 12 := by
  rw [h.2.1, if_neg (by omega)]; exact hm
theorem MI.num (h : MI σ0 m n v τ) (w : Int32) : MI σ0 m n w (wI τ 12 m 35 w) := by
  obtain ⟨h1, h2, h3, h4, h5, h6, h7, h8⟩ := h
  refine ⟨h1, h2, h3, fun j hj i => ?_, fun t a k ha hn => ?_, fun k hk => ?_, ?_, h8⟩
  · rw [sI_wI, if_neg (by omega)]; exact h4 j hj i
  · refine ⟨?_, (h5 t a k ha hn).2⟩
    rw [sI_wI, if_neg (fun z => hn ⟨z.1, z.2.1⟩)]; exact (h5 t a k ha hn).1
  · rw [sI_wI, if_neg (fun z => hk z.2.2)]; exact h6 k hk
  · rw [sI_wI, if_pos ⟨rfl, rfl, rfl⟩]
theorem MI.step (h : MI σ0 m n v τ) (hn : n < 35) (hlt : m < sN σ0) {k : Nat} (hk : mF n = k) : MI σ0 m (n + 1) v (wR (wN τ (100 + k)) 12 m k (some (sN τ))) := by
  subst hk
  obtain ⟨h1, h2, h3, h4, h5, h6, h7, h8⟩ := h
  refine ⟨?_, fun b => ?_, fun j hj => ?_, fun j hj i => ?_, fun t a k ha hne => ⟨?_, ?_⟩, fun k hk => ?_, ?_, h8⟩
  · show sN τ + 1 = _
    omega
  · show sT (wN τ (100 + mF n)) b = _
    rw [sT_wN, h1]
    by_cases e : b = sN σ0 + n
    · rw [if_pos e, if_pos (by omega), e, Nat.add_sub_cancel_left]
    · rw [if_neg e, h2]
      by_cases q : sN σ0 ≤ b ∧ b < sN σ0 + n
      · rw [if_pos q, if_pos (by omega)]
      · rw [if_neg q, if_neg (by omega)]
  · rw [sR_wR]
    by_cases e : j = n
    · subst e
      rw [if_pos ⟨rfl, rfl, rfl⟩, h1]
    · rw [if_neg (fun z => e (mF_inj j (by omega) n (by omega) z.2.2)), sR_wN, if_neg (by omega)]
      exact h3 j (by omega)
  · rw [sI_wR, sI_wN]
    by_cases e : j = n
    · subst e
      rw [h1, if_pos ⟨rfl, rfl⟩]
    · rw [h1, if_neg (by omega)]
      exact h4 j (by omega) i
  · rw [sI_wR, sI_wN, h1, if_neg (by omega)]
    exact (h5 t a k ha hne).1
  · rw [sR_wR, if_neg (fun z => hne ⟨z.1, z.2.1⟩), sR_wN, h1, if_neg (by omega)]
    exact (h5 t a k ha hne).2
  · rw [sI_wR, sI_wN, if_neg (by omega)]
    exact h6 k hk
  · rw [sI_wR, sI_wN, if_neg (by omega)]
    exact h7
theorem V.mi {X : VX} {own mn : String} {cc : ByteArray} {nL : Nat} {ret : Option FieldType} {d mc ms : Nat} {Q : State → Prop} {nc ns pc : Nat} {ls : List (Option Value)} {st : List Value} {k : Nat} (h : MI σ0 m n v τ) (hn : n < 35) (hlt : m < sN σ0) (hk : mF n = k)
    (kk : ∀ τ', MI σ0 m (n + 1) v τ' → V E X own mn cc nL ret d mc ms Q τ' nc ns pc ls st) : V E X own mn cc nL ret d mc ms Q (wR (wN τ (100 + k)) 12 m k (some (sN τ))) nc ns pc ls st := kk _ (h.step hn hlt hk)
theorem V.mi35 {X : VX} {own mn : String} {cc : ByteArray} {nL : Nat} {ret : Option FieldType} {d mc ms : Nat} {Q : State → Prop} {nc ns pc : Nat} {ls : List (Option Value)} {st : List Value} {w : Int32} (h : MI σ0 m n v τ)
    (kk : ∀ τ', MI σ0 m n w τ' → V E X own mn cc nL ret d mc ms Q τ' nc ns pc ls st) : V E X own mn cc nL ret d mc ms Q (wI τ 12 m 35 w) nc ns pc ls st := kk _ (h.num w)
set_option maxRecDepth 100000 in
theorem c_init (ht : sT σ m = 12) (hlt : m < sN σ) (hp : ∀ τ, MI σ m 35 (nI 36) τ → post none τ) : MX11_init E 1 40 2000 [.ref m] σ post := by
  refine MA.of RX11 "<init>" [some (.ref m)] rfl rfl rfl (catAll rfl) (Nat.le_of_ble_eq_true rfl) rfl (fun X => ?_)
  have h0 : MI σ m 0 (sI σ 12 m 35) σ := MI.zero
  refine V.aload_n (i := 0) dX11_init_0 rfl rfl ?_
  refine V.objInit dX11_init_1 wm_X11_1 wi_objectInit wc_objectInit (Nat.le_of_ble_eq_true rfl) (by decide) ?_
  refine V.aload_n (i := 0) dX11_init_4 rfl rfl ?_
  refine V.bipush dX11_init_5 bc_16 ?_
  refine V.newa 102 dX11_init_7 rfl wa_int (by decide) (by decide) rfl (by decide) (by decide) (by decide) ?_
  refine V.putFr dX11_init_9 fl_X11_7 rfl rfl rfl rfl (h0.ty ht hlt _) ?_
  refine V.mi h0 (by decide) hlt rfl (fun τ1 h1 => ?_)
  refine V.aload_n (i := 0) dX11_init_12 rfl rfl ?_
  refine V.bipush dX11_init_13 bc_16 ?_
  refine V.newa 103 dX11_init_15 rfl wa_int (by decide) (by decide) rfl (by decide) (by decide) (by decide) ?_
  refine V.putFr dX11_init_17 fl_X11_13 rfl rfl rfl rfl (h1.ty ht hlt _) ?_
  refine V.mi h1 (by decide) hlt rfl (fun τ2 h2 => ?_)
  refine V.aload_n (i := 0) dX11_init_20 rfl rfl ?_
  refine V.bipush dX11_init_21 bc_16 ?_
  refine V.newa 104 dX11_init_23 rfl wa_int (by decide) (by decide) rfl (by decide) (by decide) (by decide) ?_
  refine V.putFr dX11_init_25 fl_X11_16 rfl rfl rfl rfl (h2.ty ht hlt _) ?_
  refine V.mi h2 (by decide) hlt rfl (fun τ3 h3 => ?_)
  refine V.aload_n (i := 0) dX11_init_28 rfl rfl ?_
  refine V.bipush dX11_init_29 bc_48 ?_
  refine V.newa 105 dX11_init_31 rfl wa_int (by decide) (by decide) rfl (by decide) (by decide) (by decide) ?_
  refine V.putFr dX11_init_33 fl_X11_19 rfl rfl rfl rfl (h3.ty ht hlt _) ?_
  refine V.mi h3 (by decide) hlt rfl (fun τ4 h4 => ?_)
  refine V.aload_n (i := 0) dX11_init_36 rfl rfl ?_
  refine V.bipush dX11_init_37 bc_60 ?_
  refine V.newa 107 dX11_init_39 rfl wa_int (by decide) (by decide) rfl (by decide) (by decide) (by decide) ?_
  refine V.putFr dX11_init_41 fl_X11_22 rfl rfl rfl rfl (h4.ty ht hlt _) ?_
  refine V.mi h4 (by decide) hlt rfl (fun τ5 h5 => ?_)
  refine V.aload_n (i := 0) dX11_init_44 rfl rfl ?_
  refine V.bipush dX11_init_45 bc_60 ?_
  refine V.newa 108 dX11_init_47 rfl wa_int (by decide) (by decide) rfl (by decide) (by decide) (by decide) ?_
  refine V.putFr dX11_init_49 fl_X11_25 rfl rfl rfl rfl (h5.ty ht hlt _) ?_
  refine V.mi h5 (by decide) hlt rfl (fun τ6 h6 => ?_)
  refine V.aload_n (i := 0) dX11_init_52 rfl rfl ?_
  refine V.bipush dX11_init_53 bc_60 ?_
  refine V.newa 109 dX11_init_55 rfl wa_int (by decide) (by decide) rfl (by decide) (by decide) (by decide) ?_
  refine V.putFr dX11_init_57 fl_X11_28 rfl rfl rfl rfl (h6.ty ht hlt _) ?_
  refine V.mi h6 (by decide) hlt rfl (fun τ7 h7 => ?_)
  refine V.aload_n (i := 0) dX11_init_60 rfl rfl ?_
  refine V.bipush dX11_init_61 bc_12 ?_
  refine V.newa 111 dX11_init_63 rfl wa_int (by decide) (by decide) rfl (by decide) (by decide) (by decide) ?_
  refine V.putFr dX11_init_65 fl_X11_31 rfl rfl rfl rfl (h7.ty ht hlt _) ?_
  refine V.mi h7 (by decide) hlt rfl (fun τ8 h8 => ?_)
  refine V.aload_n (i := 0) dX11_init_68 rfl rfl ?_
  refine V.bipush dX11_init_69 bc_12 ?_
  refine V.newa 112 dX11_init_71 rfl wa_int (by decide) (by decide) rfl (by decide) (by decide) (by decide) ?_
  refine V.putFr dX11_init_73 fl_X11_34 rfl rfl rfl rfl (h8.ty ht hlt _) ?_
  refine V.mi h8 (by decide) hlt rfl (fun τ9 h9 => ?_)
  refine V.aload_n (i := 0) dX11_init_76 rfl rfl ?_
  refine V.bipush dX11_init_77 bc_50 ?_
  refine V.newa 114 dX11_init_79 rfl wa_int (by decide) (by decide) rfl (by decide) (by decide) (by decide) ?_
  refine V.putFr dX11_init_81 fl_X11_37 rfl rfl rfl rfl (h9.ty ht hlt _) ?_
  refine V.mi h9 (by decide) hlt rfl (fun τ10 h10 => ?_)
  refine V.aload_n (i := 0) dX11_init_84 rfl rfl ?_
  refine V.bipush dX11_init_85 bc_50 ?_
  refine V.newa 115 dX11_init_87 rfl wa_int (by decide) (by decide) rfl (by decide) (by decide) (by decide) ?_
  refine V.putFr dX11_init_89 fl_X11_40 rfl rfl rfl rfl (h10.ty ht hlt _) ?_
  refine V.mi h10 (by decide) hlt rfl (fun τ11 h11 => ?_)
  refine V.aload_n (i := 0) dX11_init_92 rfl rfl ?_
  refine V.bipush dX11_init_93 bc_50 ?_
  refine V.newa 116 dX11_init_95 rfl wa_int (by decide) (by decide) rfl (by decide) (by decide) (by decide) ?_
  refine V.putFr dX11_init_97 fl_X11_43 rfl rfl rfl rfl (h11.ty ht hlt _) ?_
  refine V.mi h11 (by decide) hlt rfl (fun τ12 h12 => ?_)
  refine V.aload_n (i := 0) dX11_init_100 rfl rfl ?_
  refine V.bipush dX11_init_101 bc_50 ?_
  refine V.newa 117 dX11_init_103 rfl wa_int (by decide) (by decide) rfl (by decide) (by decide) (by decide) ?_
  refine V.putFr dX11_init_105 fl_X11_46 rfl rfl rfl rfl (h12.ty ht hlt _) ?_
  refine V.mi h12 (by decide) hlt rfl (fun τ13 h13 => ?_)
  refine V.aload_n (i := 0) dX11_init_108 rfl rfl ?_
  refine V.bipush dX11_init_109 bc_50 ?_
  refine V.newa 118 dX11_init_111 rfl wa_boolean (by decide) (by decide) rfl (by decide) (by decide) (by decide) ?_
  refine V.putFr dX11_init_113 fl_X11_49 rfl rfl rfl rfl (h13.ty ht hlt _) ?_
  refine V.mi h13 (by decide) hlt rfl (fun τ14 h14 => ?_)
  refine V.aload_n (i := 0) dX11_init_116 rfl rfl ?_
  refine V.bipush dX11_init_117 bc_60 ?_
  refine V.newa 120 dX11_init_119 rfl wa_int (by decide) (by decide) rfl (by decide) (by decide) (by decide) ?_
  refine V.putFr dX11_init_121 fl_X11_53 rfl rfl rfl rfl (h14.ty ht hlt _) ?_
  refine V.mi h14 (by decide) hlt rfl (fun τ15 h15 => ?_)
  refine V.aload_n (i := 0) dX11_init_124 rfl rfl ?_
  refine V.bipush dX11_init_125 bc_6 ?_
  refine V.newa 122 dX11_init_127 rfl wa_int (by decide) (by decide) rfl (by decide) (by decide) (by decide) ?_
  refine V.putFr dX11_init_129 fl_X11_56 rfl rfl rfl rfl (h15.ty ht hlt _) ?_
  refine V.mi h15 (by decide) hlt rfl (fun τ16 h16 => ?_)
  refine V.aload_n (i := 0) dX11_init_132 rfl rfl ?_
  refine V.bipush dX11_init_133 bc_6 ?_
  refine V.newa 123 dX11_init_135 rfl wa_int (by decide) (by decide) rfl (by decide) (by decide) (by decide) ?_
  refine V.putFr dX11_init_137 fl_X11_59 rfl rfl rfl rfl (h16.ty ht hlt _) ?_
  refine V.mi h16 (by decide) hlt rfl (fun τ17 h17 => ?_)
  refine V.aload_n (i := 0) dX11_init_140 rfl rfl ?_
  refine V.bipush dX11_init_141 bc_60 ?_
  refine V.newa 124 dX11_init_143 rfl wa_int (by decide) (by decide) rfl (by decide) (by decide) (by decide) ?_
  refine V.putFr dX11_init_145 fl_X11_62 rfl rfl rfl rfl (h17.ty ht hlt _) ?_
  refine V.mi h17 (by decide) hlt rfl (fun τ18 h18 => ?_)
  refine V.aload_n (i := 0) dX11_init_148 rfl rfl ?_
  refine V.bipush dX11_init_149 bc_24 ?_
  refine V.newa 125 dX11_init_151 rfl wa_int (by decide) (by decide) rfl (by decide) (by decide) (by decide) ?_
  refine V.putFr dX11_init_153 fl_X11_65 rfl rfl rfl rfl (h18.ty ht hlt _) ?_
  refine V.mi h18 (by decide) hlt rfl (fun τ19 h19 => ?_)
  refine V.aload_n (i := 0) dX11_init_156 rfl rfl ?_
  refine V.bipush dX11_init_157 bc_60 ?_
  refine V.newa 127 dX11_init_159 rfl wa_int (by decide) (by decide) rfl (by decide) (by decide) (by decide) ?_
  refine V.putFr dX11_init_161 fl_X11_68 rfl rfl rfl rfl (h19.ty ht hlt _) ?_
  refine V.mi h19 (by decide) hlt rfl (fun τ20 h20 => ?_)
  refine V.aload_n (i := 0) dX11_init_164 rfl rfl ?_
  refine V.bipush dX11_init_165 bc_60 ?_
  refine V.newa 128 dX11_init_167 rfl wa_int (by decide) (by decide) rfl (by decide) (by decide) (by decide) ?_
  refine V.putFr dX11_init_169 fl_X11_71 rfl rfl rfl rfl (h20.ty ht hlt _) ?_
  refine V.mi h20 (by decide) hlt rfl (fun τ21 h21 => ?_)
  refine V.aload_n (i := 0) dX11_init_172 rfl rfl ?_
  refine V.bipush dX11_init_173 bc_60 ?_
  refine V.newa 129 dX11_init_175 rfl wa_int (by decide) (by decide) rfl (by decide) (by decide) (by decide) ?_
  refine V.putFr dX11_init_177 fl_X11_74 rfl rfl rfl rfl (h21.ty ht hlt _) ?_
  refine V.mi h21 (by decide) hlt rfl (fun τ22 h22 => ?_)
  refine V.aload_n (i := 0) dX11_init_180 rfl rfl ?_
  refine V.bipush dX11_init_181 bc_60 ?_
  refine V.newa 130 dX11_init_183 rfl wa_int (by decide) (by decide) rfl (by decide) (by decide) (by decide) ?_
  refine V.putFr dX11_init_185 fl_X11_77 rfl rfl rfl rfl (h22.ty ht hlt _) ?_
  refine V.mi h22 (by decide) hlt rfl (fun τ23 h23 => ?_)
  refine V.aload_n (i := 0) dX11_init_188 rfl rfl ?_
  refine V.bipush dX11_init_189 bc_60 ?_
  refine V.newa 131 dX11_init_191 rfl wa_boolean (by decide) (by decide) rfl (by decide) (by decide) (by decide) ?_
  refine V.putFr dX11_init_193 fl_X11_80 rfl rfl rfl rfl (h23.ty ht hlt _) ?_
  refine V.mi h23 (by decide) hlt rfl (fun τ24 h24 => ?_)
  refine V.aload_n (i := 0) dX11_init_196 rfl rfl ?_
  refine V.bipush dX11_init_197 bc_60 ?_
  refine V.newa 132 dX11_init_199 rfl wa_int (by decide) (by decide) rfl (by decide) (by decide) (by decide) ?_
  refine V.putFr dX11_init_201 fl_X11_83 rfl rfl rfl rfl (h24.ty ht hlt _) ?_
  refine V.mi h24 (by decide) hlt rfl (fun τ25 h25 => ?_)
  refine V.aload_n (i := 0) dX11_init_204 rfl rfl ?_
  refine V.bipush dX11_init_205 bc_112 ?_
  refine V.newa 134 dX11_init_207 rfl wa_int (by decide) (by decide) rfl (by decide) (by decide) (by decide) ?_
  refine V.putFr dX11_init_209 fl_X11_86 rfl rfl rfl rfl (h25.ty ht hlt _) ?_
  refine V.mi h25 (by decide) hlt rfl (fun τ26 h26 => ?_)
  refine V.aload_n (i := 0) dX11_init_212 rfl rfl ?_
  refine V.bipush dX11_init_213 bc_36 ?_
  refine V.puti dX11_init_215 fl_X11_89 rfl rfl (h26.ty0 ht hlt) ?_
  refine V.mi35 h26 (fun τ26b h26b => ?_)
  refine V.aload_n (i := 0) dX11_init_218 rfl rfl ?_
  refine V.bipush dX11_init_219 bc_16 ?_
  refine V.newa 136 dX11_init_221 rfl wa_boolean (by decide) (by decide) rfl (by decide) (by decide) (by decide) ?_
  refine V.putFr dX11_init_223 fl_X11_93 rfl rfl rfl rfl (h26b.ty ht hlt _) ?_
  refine V.mi h26b (by decide) hlt rfl (fun τ27 h27 => ?_)
  refine V.aload_n (i := 0) dX11_init_226 rfl rfl ?_
  refine V.bipush dX11_init_227 bc_16 ?_
  refine V.newa 137 dX11_init_229 rfl wa_int (by decide) (by decide) rfl (by decide) (by decide) (by decide) ?_
  refine V.putFr dX11_init_231 fl_X11_96 rfl rfl rfl rfl (h27.ty ht hlt _) ?_
  refine V.mi h27 (by decide) hlt rfl (fun τ28 h28 => ?_)
  refine V.aload_n (i := 0) dX11_init_234 rfl rfl ?_
  refine V.bipush dX11_init_235 bc_16 ?_
  refine V.newa 138 dX11_init_237 rfl wa_int (by decide) (by decide) rfl (by decide) (by decide) (by decide) ?_
  refine V.putFr dX11_init_239 fl_X11_99 rfl rfl rfl rfl (h28.ty ht hlt _) ?_
  refine V.mi h28 (by decide) hlt rfl (fun τ29 h29 => ?_)
  refine V.aload_n (i := 0) dX11_init_242 rfl rfl ?_
  refine V.bipush dX11_init_243 bc_16 ?_
  refine V.newa 140 dX11_init_245 rfl wa_int (by decide) (by decide) rfl (by decide) (by decide) (by decide) ?_
  refine V.putFr dX11_init_247 fl_X11_102 rfl rfl rfl rfl (h29.ty ht hlt _) ?_
  refine V.mi h29 (by decide) hlt rfl (fun τ30 h30 => ?_)
  refine V.aload_n (i := 0) dX11_init_250 rfl rfl ?_
  refine V.bipush dX11_init_251 bc_6 ?_
  refine V.newa 141 dX11_init_253 rfl wa_int (by decide) (by decide) rfl (by decide) (by decide) (by decide) ?_
  refine V.putFr dX11_init_255 fl_X11_105 rfl rfl rfl rfl (h30.ty ht hlt _) ?_
  refine V.mi h30 (by decide) hlt rfl (fun τ31 h31 => ?_)
  refine V.aload_n (i := 0) dX11_init_258 rfl rfl ?_
  refine V.bipush dX11_init_259 bc_8 ?_
  refine V.newa 143 dX11_init_261 rfl wa_int (by decide) (by decide) rfl (by decide) (by decide) (by decide) ?_
  refine V.putFr dX11_init_263 fl_X11_108 rfl rfl rfl rfl (h31.ty ht hlt _) ?_
  refine V.mi h31 (by decide) hlt rfl (fun τ32 h32 => ?_)
  refine V.aload_n (i := 0) dX11_init_266 rfl rfl ?_
  refine V.bipush dX11_init_267 bc_8 ?_
  refine V.newa 144 dX11_init_269 rfl wa_int (by decide) (by decide) rfl (by decide) (by decide) (by decide) ?_
  refine V.putFr dX11_init_271 fl_X11_111 rfl rfl rfl rfl (h32.ty ht hlt _) ?_
  refine V.mi h32 (by decide) hlt rfl (fun τ33 h33 => ?_)
  refine V.aload_n (i := 0) dX11_init_274 rfl rfl ?_
  refine V.bipush dX11_init_275 bc_8 ?_
  refine V.newa 145 dX11_init_277 rfl wa_int (by decide) (by decide) rfl (by decide) (by decide) (by decide) ?_
  refine V.putFr dX11_init_279 fl_X11_114 rfl rfl rfl rfl (h33.ty ht hlt _) ?_
  refine V.mi h33 (by decide) hlt rfl (fun τ34 h34 => ?_)
  refine V.aload_n (i := 0) dX11_init_282 rfl rfl ?_
  refine V.bipush dX11_init_283 bc_8 ?_
  refine V.newa 146 dX11_init_285 rfl wa_int (by decide) (by decide) rfl (by decide) (by decide) (by decide) ?_
  refine V.putFr dX11_init_287 fl_X11_117 rfl rfl rfl rfl (h34.ty ht hlt _) ?_
  refine V.mi h34 (by decide) hlt rfl (fun τ35 h35 => ?_)
  refine V.vret dX11_init_290 (Nat.le_of_ble_eq_true rfl) (Nat.le_of_ble_eq_true rfl) ?_
  exact hp _ h35
end MINIT

