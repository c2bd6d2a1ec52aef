/-! THE CLAIM OUT OF ONE WALK OF THE LAW'S BODY. Your part is whole_start (and what it stands on); all else here is the same for every law, but numbers. -/
def R_law : String := "PortLookLaw"
def lw_P (b : Addr) (xs : List Int32) (args : Array Value) (s : State) : Prop := args = #[.ref b] ∧ s.IntsAt b xs ∧ xs.length ≤ 2048 ∧ (Jvm.Cond.and given_1 narrow_1).before args s = true
def lw_Q (_ : Array Value) (s : State) (o : Outcome) (t : State) : Prop := o = .returned (some (.int 1)) ∧ Framed s o t [] 600000 7302250
def lw_Z (below : List Frame) (a : Array Value) (s : State) : State → Prop := fun t => ∃ o, t.status = .running ∧ Ended t below o ∧ lw_Q a s o t
/-- the law's own end, with 1 on the stack, nothing written that was there before, its room as the claim has it -/
theorem lw_ret {p : Program} {l : Launch} {e : Env} {s : State} {m : MethodId} {below : List Frame} {meth : Method} {c : Code} {b : Nat} (hx : p.tables.exec = Jvm.exec) (hb : c.code = code) (hr : meth.sig.returnType = ret) (hlocks : meth.locks = false) {pc : Nat} {H : Heap} {ls : Array Slot} (hdg : decode code pc = .ok (.ireturn, 1)) : W p l e room_1 s m #[Value.ref b] below meth c H [] 600000 7302250 (lw_Z below #[Value.ref b] s) (F0 m pc ls [.int 1]) := by
  intro T hT X
  obtain ⟨fs, hret, hrun, hended, hW, hframe⟩ := X.leave (v := some (.int 1)) (hlocks := hlocks) (fun h => by rw [hr] at h; cases h)
  have hmeth' : T.vm.method? m = some meth := X.method'
  refine ⟨T.setFrames fs, ?_, .returned (some (.int 1)), hrun, hended, rfl, ⟨_, rfl⟩, hW, hframe⟩
  jvm_step X.here [X.here.top, hx, hb, hdg, hmeth', hr, ret, narrow_b1]
  (try refine ⟨rfl, ?_⟩); (try refine ⟨rfl, ?_⟩)
  first | (intro acts; rw [hret _ acts rfl rfl rfl]) | rw [hret _ _ rfl rfl rfl]
  exact Steps.refl _
/-- what holds at the law's entry: the machine, the code, the tables' words (any of lw_tbl by 'hts w (by decide +kernel)'), the script of L ints xs at the cell b, what the Statement gives of the start (any of its parts by flat_of_before) -/
def lw_At (p : Program) (s : State) (m : MethodId) (meth : Method) (c : Code) (b L : Nat) (xs : Nat → Int32) : Prop :=
  p.tables.exec = Jvm.exec ∧ c.code = code ∧ meth.sig.returnType = ret ∧ c.maxLocals = 4 ∧ s.vm.findClass R_law = some m.cls ∧ (∀ w ∈ lw_tbl, w.before #[Value.ref b] s = true) ∧ va_X b L xs s s.heap ∧ b < s.heap.size ∧ meth.locks = false ∧ (Jvm.Cond.and given_1 narrow_1).before #[Value.ref b] s = true
/-! ===== what the tables say at the law's entry ===== -/
section ENTRY
variable {s : State} {args : Array Value}
theorem en_cls (hts : ∀ w ∈ BIG, w.before args s = true) : ∃ (dC : Nat → ClassId) (dI : Nat → Nat → Nat), ∀ ci, ci < 12 → u_Kn s (cR ci) (cT ci) (cN ci) (dC ci) (dI ci) := by
  have hin : ∀ ci, ci < 12 → Cond.instantiable (cR ci) (cN ci) ∈ BIG := by
    intro ci hci
    match ci, hci with
    | 0, _ => exact wx_X0
    | 1, _ => exact wx_X1
    | 2, _ => exact wx_X2
    | 3, _ => exact wx_X3
    | 4, _ => exact wx_X4
    | 5, _ => exact wx_X5
    | 6, _ => exact wx_X6
    | 7, _ => exact wx_X7
    | 8, _ => exact wx_X8
    | 9, _ => exact wx_X9
    | 10, _ => exact wx_X10
    | 11, _ => exact wx_X11
    | n + 12, h => exact absurd h (by omega)
  have key : ∀ ci, ci < 12 → ∃ q : ClassId × (Nat → Nat), u_Kn s (cR ci) (cT ci) (cN ci) q.1 q.2 := by
    intro ci hci
    obtain ⟨c, i, h⟩ := u_known hts (cl_in ci hci) (hts _ (hin ci hci))
    exact ⟨(c, i), h⟩
  obtain ⟨q0, -⟩ := key 0 (by decide)
  have all : ∀ ci, ∃ q : ClassId × (Nat → Nat), ci < 12 → u_Kn s (cR ci) (cT ci) (cN ci) q.1 q.2 := by
    intro ci
    by_cases hci : ci < 12
    · obtain ⟨q, h⟩ := key ci hci
      exact ⟨q, fun _ => h⟩
    · exact ⟨q0, fun z => absurd z hci⟩
  obtain ⟨f, hf⟩ := Classical.skolem.mp all
  exact ⟨fun ci => (f ci).1, fun ci => (f ci).2, hf⟩
theorem ao_in : ∀ k, 2 ≤ k → k < 7 → Cond.arrayOver (.object (cR (aC k))) ∈ lw_tbl := by
  intro k h2 h7
  match k, h2, h7 with
  | 2, _, _ => show Cond.arrayOver (.object RX5) ∈ lw_tbl; decide +kernel
  | 3, _, _ => show Cond.arrayOver (.object RX1) ∈ lw_tbl; decide +kernel
  | 4, _, _ => show Cond.arrayOver (.object RX2) ∈ lw_tbl; decide +kernel
  | 5, _, _ => show Cond.arrayOver (.object RX9) ∈ lw_tbl; decide +kernel
  | 6, _, _ => show Cond.arrayOver (.object RX8) ∈ lw_tbl; decide +kernel
  | n + 7, _, h => exact absurd h (by omega)
theorem aTy_ref : ∀ k, 2 ≤ k → k < 7 → aTy k = .object (cR (aC k))
  | 2, _, _ => rfl | 3, _, _ => rfl | 4, _, _ => rfl | 5, _, _ => rfl | 6, _, _ => rfl
  | n + 7, _, h => absurd h (by omega)
theorem en_arr (hts : ∀ w ∈ lw_tbl, w.before args s = true) : ∃ cA : Nat → ClassId, ∀ k, k < 7 → ArrOfT s (cA k) (aTy k) ∧ va_RA s (cA k) (aTy k) := by
  have prim : ∀ ty : FieldType, (Cond.arrayClass ty).before args s = true → (∃ c, ArrOfT s c ty ∧ s.vm.findClass ("[" ++ ty.toString) = some c) := by
    intro ty h
    obtain ⟨c, k, comp, h1, h2, h3⟩ := Cond.arrayClass_spec h
    exact ⟨c, fun n z => ⟨fun k h => (by cases h), k, h2, comp, h3⟩, h1⟩
  have key : ∀ k, k < 7 → ∃ c : ClassId, ArrOfT s c (aTy k) ∧ va_RA s c (aTy k) := by
    intro k hk
    by_cases h2 : 2 ≤ k
    · rw [aTy_ref k h2 hk]
      obtain ⟨comp, c, kA, h1, -, h3, h4, h5⟩ := Cond.arrayOver_spec (hts _ (ao_in k h2 hk))
      exact ⟨c, fun n z => ⟨fun k h => (by cases h), kA, h3, comp, h4⟩, kA, comp, h3, h4, h1, h5⟩
    · rcases (show k = 0 ∨ k = 1 by omega) with rfl | rfl
      · exact prim .int (hts _ (List.mem_filter.mp wa_int).1)
      · exact prim .boolean (hts _ (List.mem_filter.mp wa_boolean).1)
  obtain ⟨c0, -⟩ := key 0 (by decide)
  have all : ∀ k, ∃ c : ClassId, k < 7 → ArrOfT s c (aTy k) ∧ va_RA s c (aTy k) := by
    intro k
    by_cases hk : k < 7
    · obtain ⟨c, h⟩ := key k hk
      exact ⟨c, fun _ => h⟩
    · exact ⟨c0, fun z => absurd z hk⟩
  exact Classical.skolem.mp all
theorem en_above (hts : ∀ w ∈ lw_tbl, w.before args s = true) (hgv : (Jvm.Cond.and given_1 narrow_1).before args s = true) : ∃ t : Nat, va_Z RX10 "ABOVE" "[I" (.ref t) (fun a => s.heap.size ≤ a) s s.heap ∧ va_T .int t 4 (fun j => .int (above j)) (fun a => s.heap.size ≤ a) s s.heap := by
  have hs := flat_of_before _ hgv
  obtain ⟨t, ht, hT⟩ := va_Tof (args := args) (tm := .static "PortLook" "ABOVE" "[I") (ty := .int) (N := 4) (f := fun j => .int (above j)) (A := fun a => s.heap.size ≤ a) (by decide) (hs _ (by decide +kernel)) (va_eqt (z := 4) (hs _ (by decide +kernel))) (fun j hj => by
    match j, hj with
    | 0, _ => exact va_eqt (z := -1) (hs _ (by decide +kernel))
    | 1, _ => exact va_eqt (z := 0) (hs _ (by decide +kernel))
    | 2, _ => exact va_eqt (z := 1) (hs _ (by decide +kernel))
    | 3, _ => exact va_eqt (z := 0) (hs _ (by decide +kernel))
    | n + 4, h => exact absurd h (by omega)) (fun a h => Nat.not_le.mpr h)
  exact ⟨t, va_Zof (hts (.laysStatic "PortLook" "ABOVE" "[I") (by decide +kernel)) (hts _ (List.mem_filter.mp wn_X10).1) ht (fun a h => Nat.not_le.mpr h), hT⟩
theorem en_hours (hts : ∀ w ∈ lw_tbl, w.before args s = true) (hgv : (Jvm.Cond.and given_1 narrow_1).before args s = true) : ∃ t : Nat, va_Z RX10 "LOOK_HOURS" "[I" (.ref t) (fun a => s.heap.size ≤ a) s s.heap ∧ va_T .int t 4 (fun j => .int (lookHours j)) (fun a => s.heap.size ≤ a) s s.heap := by
  have hs := flat_of_before _ hgv
  obtain ⟨t, ht, hT⟩ := va_Tof (args := args) (tm := .static "PortLook" "LOOK_HOURS" "[I") (ty := .int) (N := 4) (f := fun j => .int (lookHours j)) (A := fun a => s.heap.size ≤ a) (by decide) (hs _ (by decide +kernel)) (va_eqt (z := 4) (hs _ (by decide +kernel))) (fun j hj => by
    match j, hj with
    | 0, _ => exact va_eqt (z := 3) (hs _ (by decide +kernel))
    | 1, _ => exact va_eqt (z := 5) (hs _ (by decide +kernel))
    | 2, _ => exact va_eqt (z := 7) (hs _ (by decide +kernel))
    | 3, _ => exact va_eqt (z := 4) (hs _ (by decide +kernel))
    | n + 4, h => exact absurd h (by omega)) (fun a h => Nat.not_le.mpr h)
  exact ⟨t, va_Zof (hts (.laysStatic "PortLook" "LOOK_HOURS" "[I") (by decide +kernel)) (hts _ (List.mem_filter.mp wn_X10).1) ht (fun a h => Nat.not_le.mpr h), hT⟩
theorem en_K (l : Launch) (hts : ∀ w ∈ lw_tbl, w.before args s = true) (hgv : (Jvm.Cond.and given_1 narrow_1).before args s = true) : ∃ E : VE, eL E = l ∧ eF E = false ∧ eH E = s.heap ∧ KK E s := by
  obtain ⟨dC, dI, hc⟩ := en_cls (fun w hw => hts w (List.mem_filter.mp hw).1)
  obtain ⟨cA, ha⟩ := en_arr hts
  obtain ⟨t0, z0, q0⟩ := en_above hts hgv
  obtain ⟨t1, z1, q1⟩ := en_hours hts hgv
  refine ⟨(l, (dC, dI), cA, fun _ => 0, fun k => if k = 0 then t0 else t1, false, s.heap), rfl, rfl, rfl, ⟨fun k q hq => ?_, fun k q hq => ?_⟩, fun w hw => ?_, fun k h2 h7 => ?_, ⟨z0, q0⟩, z1, q1⟩
  · have hk : k < 12 := (List.getElem?_eq_some_iff.mp hq).1
    have e := Option.some.inj ((cl_at k hk).symm.trans hq)
    rw [← e]
    exact hc k hk
  · have hk : k < 7 := (List.getElem?_eq_some_iff.mp hq).1
    have e := Option.some.inj ((eTys_at _ k hk).symm.trans hq)
    rw [← e]
    exact ha k hk
  · obtain ⟨a, i, x, b, rfl⟩ := NW_is hw
    exact va_Nw.of rfl (hts _ (List.mem_filter.mp hw).1)
  · exact va_AO.of (hts _ (ao_in k h2 h7))
end ENTRY
/-- from the entry, for every script of at most 2048 ints, the law comes to its end with true -/
theorem whole_start {p : Program} {e : Env} {s : State} {m : MethodId} {below : List Frame} {meth : Method} {c : Code} (l : Launch) {b L : Nat} {xs : Nat → Int32} (hL : L ≤ 2048) (C0 : lw_At p s m meth c b L xs) : W p l e room_1 s m #[Value.ref b] below meth c s.heap [] 0 0 (lw_Z below #[Value.ref b] s) (entryFrame m ([Value.ref b] : List Value).toArray 4) := by
  obtain ⟨hx, hb, hr, hml, hown, hts, hX, hbl, hlocks, hgv⟩ := id C0
  obtain ⟨E, eL', eF', eH', hK⟩ := en_K l hts hgv
  obtain ⟨l', D, A, qq, S, F, H0⟩ := E
  obtain rfl : l' = l := eL'
  obtain rfl : F = false := eF'
  obtain rfl : H0 = s.heap := eH'
  have hcat : ∀ v ∈ ([Value.ref b] : List Value), v.category = 1 := fun v hv => by rw [List.mem_singleton.mp hv]; rfl
  have hsl := lg_sl_cat1 [Value.ref b] hcat
  have hE := lv_entry [Value.ref b] (n := 4) (by rw [hsl]; exact Nat.le_of_ble_eq_true rfl)
  rw [lg_entry_eq]
  have CC : CX (l', D, A, qq, S, false, s.heap) (p, e, room_1, s, m, #[Value.ref b], below, meth, c) RL meth.name cL_law 4 ret 30 600000 7302250 :=
    ⟨hx, hb, hml, hown, fun w hw => hts w (List.mem_filter.mp hw).1, hK, hlocks, rfl, hr, Nat.le_of_ble_eq_true rfl, Nat.le_of_ble_eq_true rfl, Nat.le_of_ble_eq_true rfl, Nat.le_of_ble_eq_true rfl⟩
  refine L_start (E := (l', D, A, qq, S, false, s.heap)) (X := (p, e, room_1, s, m, #[Value.ref b], below, meth, c)) (mn := meth.name) (σ := (s.heap.size, fun _ => 0, fun _ _ _ => 0, fun _ _ _ => none, G0)) hX hbl hL (fun mm a0 σ nc ns ls h1 h2 C H locs arr hA hl hLv => ?_) CC s.heap [] _ ⟨rfl, Nat.le_refl _, fun _ _ => rfl, fun a h => absurd rfl h, fun h => by cases h⟩ (fun q hq => by cases hq) ⟨hE.1, hE.2.1, fun i v hi => ?_⟩
  · exact va_forget hl (W.widen h1 h2 (lw_ret C.1 C.2.1 C.2.2.2.2.2.2.2.2.1 C.2.2.2.2.2.2.1 dL_law_1149))
  · have h1 := lget_args [Value.ref b] 3 i v hi
    refine ⟨?_, hcat v (List.mem_of_getElem? h1)⟩
    rw [hsl, List.getElem?_toArray, List.getElem?_append_left (by rw [List.length_map]; exact (List.getElem?_eq_some_iff.mp h1).1), List.getElem?_map, h1]
    rfl
