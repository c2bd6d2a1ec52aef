/-! ===== the class's cells and the model's rows ===== -/
abbrev PT : Type := Nat → Nat → Nat
def FX (σ : Sg) (x : Nat) (P : PT) : Prop := sT σ x = 11 ∧ (sR σ 11 x 0 = some (P 0 0) ∧ sT σ (P 0 0) = 32) ∧ (sR σ 11 x 3 = some (P 0 1) ∧ sT σ (P 0 1) = 4) ∧ (sR σ 11 x 4 = some (P 0 3) ∧ sT σ (P 0 3) = 33) ∧ (sR σ 11 x 6 = some (P 0 4) ∧ sT σ (P 0 4) = 34) ∧ (sR σ 11 x 8 = some (P 0 5) ∧ sT σ (P 0 5) = 35) ∧ (sR σ 11 x 10 = some (P 0 6) ∧ sT σ (P 0 6) = 8) ∧ (sR σ 11 x 14 = some (P 0 8) ∧ sT σ (P 0 8) = 25) ∧ (sR σ 11 x 16 = some (P 0 9) ∧ sT σ (P 0 9) = 26) ∧ (sR σ 11 x 17 = some (P 0 10) ∧ sT σ (P 0 10) = 7) ∧ (sR σ 11 x 18 = some (P 0 11) ∧ sT σ (P 0 11) = 1) ∧ (sR σ 4 (P 0 1) 0 = some (P 0 2) ∧ sT σ (P 0 2) = 20) ∧ (sR σ 8 (P 0 6) 0 = some (P 0 7) ∧ sT σ (P 0 7) = 22) ∧ (sR σ 1 (P 0 11) 0 = some (P 0 12) ∧ sT σ (P 0 12) = 27) ∧ (sR σ 1 (P 0 11) 1 = some (P 0 13) ∧ sT σ (P 0 13) = 28) ∧ (sR σ 1 (P 0 11) 2 = some (P 0 14) ∧ sT σ (P 0 14) = 29) ∧ (sR σ 1 (P 0 11) 3 = some (P 0 15) ∧ sT σ (P 0 15) = 30) ∧ (sR σ 1 (P 0 11) 4 = some (P 0 16) ∧ sT σ (P 0 16) = 31)
theorem FX.x {σ : Sg} {x : Nat} {P : PT} (h : FX σ x P) : sT σ x = 11 := h.1
theorem FX.ships {σ : Sg} {x : Nat} {P : PT} (h : FX σ x P) : (sR σ 11 x 0 = some (P 0 0) ∧ sT σ (P 0 0) = 32) := h.2.1
theorem FX.owners {σ : Sg} {x : Nat} {P : PT} (h : FX σ x P) : (sR σ 11 x 3 = some (P 0 1) ∧ sT σ (P 0 1) = 4) := h.2.2.1
theorem FX.calls {σ : Sg} {x : Nat} {P : PT} (h : FX σ x P) : (sR σ 11 x 4 = some (P 0 3) ∧ sT σ (P 0 3) = 33) := h.2.2.2.1
theorem FX.looks {σ : Sg} {x : Nat} {P : PT} (h : FX σ x P) : (sR σ 11 x 6 = some (P 0 4) ∧ sT σ (P 0 4) = 34) := h.2.2.2.2.1
theorem FX.treaties {σ : Sg} {x : Nat} {P : PT} (h : FX σ x P) : (sR σ 11 x 8 = some (P 0 5) ∧ sT σ (P 0 5) = 35) := h.2.2.2.2.2.1
theorem FX.tape {σ : Sg} {x : Nat} {P : PT} (h : FX σ x P) : (sR σ 11 x 10 = some (P 0 6) ∧ sT σ (P 0 6) = 8) := h.2.2.2.2.2.2.1
theorem FX.wait {σ : Sg} {x : Nat} {P : PT} (h : FX σ x P) : (sR σ 11 x 14 = some (P 0 8) ∧ sT σ (P 0 8) = 25) := h.2.2.2.2.2.2.2.1
theorem FX.fnds {σ : Sg} {x : Nat} {P : PT} (h : FX σ x P) : (sR σ 11 x 16 = some (P 0 9) ∧ sT σ (P 0 9) = 26) := h.2.2.2.2.2.2.2.2.1
theorem FX.tally {σ : Sg} {x : Nat} {P : PT} (h : FX σ x P) : (sR σ 11 x 17 = some (P 0 10) ∧ sT σ (P 0 10) = 7) := h.2.2.2.2.2.2.2.2.2.1
theorem FX.brd {σ : Sg} {x : Nat} {P : PT} (h : FX σ x P) : (sR σ 11 x 18 = some (P 0 11) ∧ sT σ (P 0 11) = 1) := h.2.2.2.2.2.2.2.2.2.2.1
theorem FX.group {σ : Sg} {x : Nat} {P : PT} (h : FX σ x P) : (sR σ 4 (P 0 1) 0 = some (P 0 2) ∧ sT σ (P 0 2) = 20) := h.2.2.2.2.2.2.2.2.2.2.2.1
theorem FX.bytes {σ : Sg} {x : Nat} {P : PT} (h : FX σ x P) : (sR σ 8 (P 0 6) 0 = some (P 0 7) ∧ sT σ (P 0 7) = 22) := h.2.2.2.2.2.2.2.2.2.2.2.2.1
theorem FX.b0 {σ : Sg} {x : Nat} {P : PT} (h : FX σ x P) : (sR σ 1 (P 0 11) 0 = some (P 0 12) ∧ sT σ (P 0 12) = 27) := h.2.2.2.2.2.2.2.2.2.2.2.2.2.1
theorem FX.b1 {σ : Sg} {x : Nat} {P : PT} (h : FX σ x P) : (sR σ 1 (P 0 11) 1 = some (P 0 13) ∧ sT σ (P 0 13) = 28) := h.2.2.2.2.2.2.2.2.2.2.2.2.2.2.1
theorem FX.b2 {σ : Sg} {x : Nat} {P : PT} (h : FX σ x P) : (sR σ 1 (P 0 11) 2 = some (P 0 14) ∧ sT σ (P 0 14) = 29) := h.2.2.2.2.2.2.2.2.2.2.2.2.2.2.2.1
theorem FX.b3 {σ : Sg} {x : Nat} {P : PT} (h : FX σ x P) : (sR σ 1 (P 0 11) 3 = some (P 0 15) ∧ sT σ (P 0 15) = 30) := h.2.2.2.2.2.2.2.2.2.2.2.2.2.2.2.2.1
theorem FX.b4 {σ : Sg} {x : Nat} {P : PT} (h : FX σ x P) : (sR σ 1 (P 0 11) 4 = some (P 0 16) ∧ sT σ (P 0 16) = 31) := h.2.2.2.2.2.2.2.2.2.2.2.2.2.2.2.2.2
def SC (σ : Sg) (x : Nat) (P : PT) (G : GS) : Prop := (sI σ 11 x 1 = G 1 0) ∧ (sI σ 11 x 2 = G 6 0) ∧ (sI σ 11 x 5 = G 13 0) ∧ (sI σ 11 x 7 = G 26 0) ∧ (sI σ 11 x 9 = G 21 0) ∧ (sI σ 11 x 11 = G 0 0) ∧ (sI σ 11 x 12 = G 35 0) ∧ (sI σ 11 x 13 = G 33 0) ∧ (sI σ 11 x 15 = G 39 0) ∧ (sI σ 4 (P 0 1) 1 = G 10 0) ∧ (sI σ 8 (P 0 6) 1 = G 19 0) ∧ (∀ j, j < 60 → sI σ 22 (P 0 7) j = G 20 j) ∧ (∀ j, j < 16 → sI σ 25 (P 0 8) j = G 40 j) ∧ (∀ k, k < 6 → sI σ 26 (P 0 9) k = G 41 k)
theorem SC.shipN {σ : Sg} {x : Nat} {P : PT} {G : GS} (h : SC σ x P G) : sI σ 11 x 1 = G 1 0 := h.1
theorem SC.chN {σ : Sg} {x : Nat} {P : PT} {G : GS} (h : SC σ x P G) : sI σ 11 x 2 = G 6 0 := h.2.1
theorem SC.caN {σ : Sg} {x : Nat} {P : PT} {G : GS} (h : SC σ x P G) : sI σ 11 x 5 = G 13 0 := h.2.2.1
theorem SC.lkN {σ : Sg} {x : Nat} {P : PT} {G : GS} (h : SC σ x P G) : sI σ 11 x 7 = G 26 0 := h.2.2.2.1
theorem SC.trN {σ : Sg} {x : Nat} {P : PT} {G : GS} (h : SC σ x P G) : sI σ 11 x 9 = G 21 0 := h.2.2.2.2.1
theorem SC.day {σ : Sg} {x : Nat} {P : PT} {G : GS} (h : SC σ x P G) : sI σ 11 x 11 = G 0 0 := h.2.2.2.2.2.1
theorem SC.mon {σ : Sg} {x : Nat} {P : PT} {G : GS} (h : SC σ x P G) : sI σ 11 x 12 = G 35 0 := h.2.2.2.2.2.2.1
theorem SC.drN {σ : Sg} {x : Nat} {P : PT} {G : GS} (h : SC σ x P G) : sI σ 11 x 13 = G 33 0 := h.2.2.2.2.2.2.2.1
theorem SC.wtN {σ : Sg} {x : Nat} {P : PT} {G : GS} (h : SC σ x P G) : sI σ 11 x 15 = G 39 0 := h.2.2.2.2.2.2.2.2.1
theorem SC.wdN {σ : Sg} {x : Nat} {P : PT} {G : GS} (h : SC σ x P G) : sI σ 4 (P 0 1) 1 = G 10 0 := h.2.2.2.2.2.2.2.2.2.1
theorem SC.tpN {σ : Sg} {x : Nat} {P : PT} {G : GS} (h : SC σ x P G) : sI σ 8 (P 0 6) 1 = G 19 0 := h.2.2.2.2.2.2.2.2.2.2.1
theorem SC.tp {σ : Sg} {x : Nat} {P : PT} {G : GS} (h : SC σ x P G) : ∀ j, j < 60 → sI σ 22 (P 0 7) j = G 20 j := h.2.2.2.2.2.2.2.2.2.2.2.1
theorem SC.wt {σ : Sg} {x : Nat} {P : PT} {G : GS} (h : SC σ x P G) : ∀ j, j < 16 → sI σ 25 (P 0 8) j = G 40 j := h.2.2.2.2.2.2.2.2.2.2.2.2.1
theorem SC.fd {σ : Sg} {x : Nat} {P : PT} {G : GS} (h : SC σ x P G) : ∀ k, k < 6 → sI σ 26 (P 0 9) k = G 41 k := h.2.2.2.2.2.2.2.2.2.2.2.2.2
/-- the mark of an owner's group behind so many words -/
def grp (G : GS) : Nat → Nat → Nat
  | 0, a => a
  | w + 1, a => if grp G w a = grp G w (gN G 12 w) then grp G w (gN G 11 w) else grp G w a
def OW (σ : Sg) (P : PT) (G : GS) : Prop := ∀ a, a < 10 → sI σ 20 (P 0 2) a = nI (grp G (nWd G) a)
/-- a chain of traits: the last one of so many changes first -/
def chn (σ : Sg) (G : GS) (i w : Nat) : Nat → Nat → Prop
  | 0, p => sT σ p = 9 ∧ sI σ 9 p 1 = G 5 (3 * i + w) ∧ sR σ 9 p 2 = none
  | c + 1, p => if G 7 c = nI (3 * i + w) then sT σ p = 9 ∧ sI σ 9 p 0 = G 8 c ∧ sI σ 9 p 1 = G 9 c ∧ ∃ p2, sR σ 9 p 2 = some p2 ∧ chn σ G i w c p2 else chn σ G i w c p
def lastL (G : GS) (i : Nat) : Nat → Int32
  | 0 => -1
  | l + 1 => if shipOf G l = i then G 29 l else lastL G i l
def SH_at (σ : Sg) (P : PT) (G : GS) : Prop := ∀ i, i < nSh G → sR σ 32 (P 0 0) i = some (P 1 i) ∧ sT σ (P 1 i) = 6
def SH_no (σ : Sg) (P : PT) (G : GS) : Prop := ∀ i, i < nSh G → sI σ 6 (P 1 i) 0 = nI i
def SH_kind (σ : Sg) (P : PT) (G : GS) : Prop := ∀ i, i < nSh G → sI σ 6 (P 1 i) 1 = G 2 i
def SH_soc (σ : Sg) (P : PT) (G : GS) : Prop := ∀ i, i < nSh G → sI σ 6 (P 1 i) 2 = G 3 i
def SH_built (σ : Sg) (P : PT) (G : GS) : Prop := ∀ i, i < nSh G → sI σ 6 (P 1 i) 3 = G 4 i
def SH_lat (σ : Sg) (P : PT) (G : GS) : Prop := ∀ i, i < nSh G → sR σ 6 (P 1 i) 4 = some (P 2 i) ∧ sT σ (P 2 i) = 36
def SH_week (σ : Sg) (P : PT) (G : GS) : Prop := ∀ i, i < nSh G → sR σ 6 (P 1 i) 5 = some (P 3 i) ∧ sT σ (P 3 i) = 5
def SH_days (σ : Sg) (P : PT) (G : GS) : Prop := ∀ i, i < nSh G → sR σ 5 (P 3 i) 0 = some (P 4 i) ∧ sT σ (P 4 i) = 21
def SH_rest (σ : Sg) (P : PT) (G : GS) : Prop := ∀ i, i < nSh G → ∀ d, d < 7 → sI σ 21 (P 4 i) d = G 34 (7 * i + d)
def SH_berth (σ : Sg) (P : PT) (G : GS) : Prop := ∀ i, i < nSh G → sR σ 6 (P 1 i) 6 = (openOf G (nI i)).map (P 5)
def SH_last (σ : Sg) (P : PT) (G : GS) : Prop := ∀ i, i < nSh G → sI σ 6 (P 1 i) 7 = lastL G i (nLk G)
def SH_since (σ : Sg) (P : PT) (G : GS) : Prop := ∀ i, i < nSh G → sI σ 6 (P 1 i) 8 = if G 36 i = 0 then -1 else G 38 i
def SH_bans (σ : Sg) (P : PT) (G : GS) : Prop := ∀ i, i < nSh G → sI σ 6 (P 1 i) 9 = G 37 i
def SH_chain (σ : Sg) (P : PT) (G : GS) : Prop := ∀ i, i < nSh G → ∀ w, w < 3 → ∃ p, sR σ 36 (P 2 i) w = some p ∧ chn σ G i w (nCh G) p
def SH (σ : Sg) (P : PT) (G : GS) : Prop := SH_at σ P G ∧ SH_no σ P G ∧ SH_kind σ P G ∧ SH_soc σ P G ∧ SH_built σ P G ∧ SH_lat σ P G ∧ SH_week σ P G ∧ SH_days σ P G ∧ SH_rest σ P G ∧ SH_berth σ P G ∧ SH_last σ P G ∧ SH_since σ P G ∧ SH_bans σ P G ∧ SH_chain σ P G
theorem SH.at {σ : Sg} {P : PT} {G : GS} (h : SH σ P G) : ∀ i, i < nSh G → sR σ 32 (P 0 0) i = some (P 1 i) ∧ sT σ (P 1 i) = 6 := h.1
theorem SH.no {σ : Sg} {P : PT} {G : GS} (h : SH σ P G) : ∀ i, i < nSh G → sI σ 6 (P 1 i) 0 = nI i := h.2.1
theorem SH.kind {σ : Sg} {P : PT} {G : GS} (h : SH σ P G) : ∀ i, i < nSh G → sI σ 6 (P 1 i) 1 = G 2 i := h.2.2.1
theorem SH.soc {σ : Sg} {P : PT} {G : GS} (h : SH σ P G) : ∀ i, i < nSh G → sI σ 6 (P 1 i) 2 = G 3 i := h.2.2.2.1
theorem SH.built {σ : Sg} {P : PT} {G : GS} (h : SH σ P G) : ∀ i, i < nSh G → sI σ 6 (P 1 i) 3 = G 4 i := h.2.2.2.2.1
theorem SH.lat {σ : Sg} {P : PT} {G : GS} (h : SH σ P G) : ∀ i, i < nSh G → sR σ 6 (P 1 i) 4 = some (P 2 i) ∧ sT σ (P 2 i) = 36 := h.2.2.2.2.2.1
theorem SH.week {σ : Sg} {P : PT} {G : GS} (h : SH σ P G) : ∀ i, i < nSh G → sR σ 6 (P 1 i) 5 = some (P 3 i) ∧ sT σ (P 3 i) = 5 := h.2.2.2.2.2.2.1
theorem SH.days {σ : Sg} {P : PT} {G : GS} (h : SH σ P G) : ∀ i, i < nSh G → sR σ 5 (P 3 i) 0 = some (P 4 i) ∧ sT σ (P 4 i) = 21 := h.2.2.2.2.2.2.2.1
theorem SH.rest {σ : Sg} {P : PT} {G : GS} (h : SH σ P G) : ∀ i, i < nSh G → ∀ d, d < 7 → sI σ 21 (P 4 i) d = G 34 (7 * i + d) := h.2.2.2.2.2.2.2.2.1
theorem SH.berth {σ : Sg} {P : PT} {G : GS} (h : SH σ P G) : ∀ i, i < nSh G → sR σ 6 (P 1 i) 6 = (openOf G (nI i)).map (P 5) := h.2.2.2.2.2.2.2.2.2.1
theorem SH.last {σ : Sg} {P : PT} {G : GS} (h : SH σ P G) : ∀ i, i < nSh G → sI σ 6 (P 1 i) 7 = lastL G i (nLk G) := h.2.2.2.2.2.2.2.2.2.2.1
theorem SH.since {σ : Sg} {P : PT} {G : GS} (h : SH σ P G) : ∀ i, i < nSh G → sI σ 6 (P 1 i) 8 = if G 36 i = 0 then -1 else G 38 i := h.2.2.2.2.2.2.2.2.2.2.2.1
theorem SH.bans {σ : Sg} {P : PT} {G : GS} (h : SH σ P G) : ∀ i, i < nSh G → sI σ 6 (P 1 i) 9 = G 37 i := h.2.2.2.2.2.2.2.2.2.2.2.2.1
theorem SH.chain {σ : Sg} {P : PT} {G : GS} (h : SH σ P G) : ∀ i, i < nSh G → ∀ w, w < 3 → ∃ p, sR σ 36 (P 2 i) w = some p ∧ chn σ G i w (nCh G) p := h.2.2.2.2.2.2.2.2.2.2.2.2.2
def CA_at (σ : Sg) (P : PT) (G : GS) : Prop := ∀ c, c < nCa G → sR σ 33 (P 0 3) c = some (P 5 c) ∧ sT σ (P 5 c) = 2
def CA_no (σ : Sg) (P : PT) (G : GS) : Prop := ∀ c, c < nCa G → sI σ 2 (P 5 c) 0 = nI c
def CA_ship (σ : Sg) (P : PT) (G : GS) : Prop := ∀ c, c < nCa G → sR σ 2 (P 5 c) 1 = some (P 1 (gN G 14 c))
def CA_port (σ : Sg) (P : PT) (G : GS) : Prop := ∀ c, c < nCa G → sI σ 2 (P 5 c) 2 = G 15 c
def CA_from_ (σ : Sg) (P : PT) (G : GS) : Prop := ∀ c, c < nCa G → sI σ 2 (P 5 c) 3 = G 16 c
def CA_over (σ : Sg) (P : PT) (G : GS) : Prop := ∀ c, c < nCa G → sI σ 2 (P 5 c) 4 = G 17 c
def CA_held (σ : Sg) (P : PT) (G : GS) : Prop := ∀ c, c < nCa G → sI σ 2 (P 5 c) 5 = G 18 c
def CA_lks (σ : Sg) (P : PT) (G : GS) : Prop := ∀ c, c < nCa G → sI σ 2 (P 5 c) 6 = nI (looksAt G c)
def CA (σ : Sg) (P : PT) (G : GS) : Prop := CA_at σ P G ∧ CA_no σ P G ∧ CA_ship σ P G ∧ CA_port σ P G ∧ CA_from_ σ P G ∧ CA_over σ P G ∧ CA_held σ P G ∧ CA_lks σ P G
theorem CA.at {σ : Sg} {P : PT} {G : GS} (h : CA σ P G) : ∀ c, c < nCa G → sR σ 33 (P 0 3) c = some (P 5 c) ∧ sT σ (P 5 c) = 2 := h.1
theorem CA.no {σ : Sg} {P : PT} {G : GS} (h : CA σ P G) : ∀ c, c < nCa G → sI σ 2 (P 5 c) 0 = nI c := h.2.1
theorem CA.ship {σ : Sg} {P : PT} {G : GS} (h : CA σ P G) : ∀ c, c < nCa G → sR σ 2 (P 5 c) 1 = some (P 1 (gN G 14 c)) := h.2.2.1
theorem CA.port {σ : Sg} {P : PT} {G : GS} (h : CA σ P G) : ∀ c, c < nCa G → sI σ 2 (P 5 c) 2 = G 15 c := h.2.2.2.1
theorem CA.from_ {σ : Sg} {P : PT} {G : GS} (h : CA σ P G) : ∀ c, c < nCa G → sI σ 2 (P 5 c) 3 = G 16 c := h.2.2.2.2.1
theorem CA.over {σ : Sg} {P : PT} {G : GS} (h : CA σ P G) : ∀ c, c < nCa G → sI σ 2 (P 5 c) 4 = G 17 c := h.2.2.2.2.2.1
theorem CA.held {σ : Sg} {P : PT} {G : GS} (h : CA σ P G) : ∀ c, c < nCa G → sI σ 2 (P 5 c) 5 = G 18 c := h.2.2.2.2.2.2.1
theorem CA.lks {σ : Sg} {P : PT} {G : GS} (h : CA σ P G) : ∀ c, c < nCa G → sI σ 2 (P 5 c) 6 = nI (looksAt G c) := h.2.2.2.2.2.2.2
def LO_at (σ : Sg) (P : PT) (G : GS) : Prop := ∀ l, l < nLk G → sR σ 34 (P 0 4) l = some (P 6 l) ∧ sT σ (P 6 l) = 3
def LO_call (σ : Sg) (P : PT) (G : GS) : Prop := ∀ l, l < nLk G → sR σ 3 (P 6 l) 0 = some (P 5 (gN G 27 l))
def LO_by_ (σ : Sg) (P : PT) (G : GS) : Prop := ∀ l, l < nLk G → sI σ 3 (P 6 l) 1 = G 28 l
def LO_on_ (σ : Sg) (P : PT) (G : GS) : Prop := ∀ l, l < nLk G → sI σ 3 (P 6 l) 2 = G 29 l
def LO_flt (σ : Sg) (P : PT) (G : GS) : Prop := ∀ l, l < nLk G → sI σ 3 (P 6 l) 3 = G 30 l
def LO_hold (σ : Sg) (P : PT) (G : GS) : Prop := ∀ l, l < nLk G → sI σ 3 (P 6 l) 4 = G 31 l
def LO_chance (σ : Sg) (P : PT) (G : GS) : Prop := ∀ l, l < nLk G → sI σ 3 (P 6 l) 5 = G 32 l
def LO (σ : Sg) (P : PT) (G : GS) : Prop := LO_at σ P G ∧ LO_call σ P G ∧ LO_by_ σ P G ∧ LO_on_ σ P G ∧ LO_flt σ P G ∧ LO_hold σ P G ∧ LO_chance σ P G
theorem LO.at {σ : Sg} {P : PT} {G : GS} (h : LO σ P G) : ∀ l, l < nLk G → sR σ 34 (P 0 4) l = some (P 6 l) ∧ sT σ (P 6 l) = 3 := h.1
theorem LO.call {σ : Sg} {P : PT} {G : GS} (h : LO σ P G) : ∀ l, l < nLk G → sR σ 3 (P 6 l) 0 = some (P 5 (gN G 27 l)) := h.2.1
theorem LO.by_ {σ : Sg} {P : PT} {G : GS} (h : LO σ P G) : ∀ l, l < nLk G → sI σ 3 (P 6 l) 1 = G 28 l := h.2.2.1
theorem LO.on_ {σ : Sg} {P : PT} {G : GS} (h : LO σ P G) : ∀ l, l < nLk G → sI σ 3 (P 6 l) 2 = G 29 l := h.2.2.2.1
theorem LO.flt {σ : Sg} {P : PT} {G : GS} (h : LO σ P G) : ∀ l, l < nLk G → sI σ 3 (P 6 l) 3 = G 30 l := h.2.2.2.2.1
theorem LO.hold {σ : Sg} {P : PT} {G : GS} (h : LO σ P G) : ∀ l, l < nLk G → sI σ 3 (P 6 l) 4 = G 31 l := h.2.2.2.2.2.1
theorem LO.chance {σ : Sg} {P : PT} {G : GS} (h : LO σ P G) : ∀ l, l < nLk G → sI σ 3 (P 6 l) 5 = G 32 l := h.2.2.2.2.2.2
def TR_at (σ : Sg) (P : PT) (G : GS) : Prop := ∀ t, t < nTr G → sR σ 35 (P 0 5) t = some (P 7 t) ∧ sT σ (P 7 t) = 10
def TR_from_ (σ : Sg) (P : PT) (G : GS) : Prop := ∀ t, t < nTr G → sI σ 10 (P 7 t) 0 = G 22 t
def TR_wts (σ : Sg) (P : PT) (G : GS) : Prop := ∀ t, t < nTr G → sR σ 10 (P 7 t) 1 = some (P 8 t) ∧ sT σ (P 8 t) = 23
def TR_grv (σ : Sg) (P : PT) (G : GS) : Prop := ∀ t, t < nTr G → sR σ 10 (P 7 t) 2 = some (P 9 t) ∧ sT σ (P 9 t) = 24
def TR_lim (σ : Sg) (P : PT) (G : GS) : Prop := ∀ t, t < nTr G → sI σ 10 (P 7 t) 3 = G 23 t
def TR_wt (σ : Sg) (P : PT) (G : GS) : Prop := ∀ t, t < nTr G → ∀ k, k < 10 → sI σ 23 (P 8 t) k = G 24 (10 * t + k)
def TR_gr (σ : Sg) (P : PT) (G : GS) : Prop := ∀ t, t < nTr G → ∀ k, k < 4 → sI σ 24 (P 9 t) k = G 25 (4 * t + k)
def TR (σ : Sg) (P : PT) (G : GS) : Prop := TR_at σ P G ∧ TR_from_ σ P G ∧ TR_wts σ P G ∧ TR_grv σ P G ∧ TR_lim σ P G ∧ TR_wt σ P G ∧ TR_gr σ P G
theorem TR.at {σ : Sg} {P : PT} {G : GS} (h : TR σ P G) : ∀ t, t < nTr G → sR σ 35 (P 0 5) t = some (P 7 t) ∧ sT σ (P 7 t) = 10 := h.1
theorem TR.from_ {σ : Sg} {P : PT} {G : GS} (h : TR σ P G) : ∀ t, t < nTr G → sI σ 10 (P 7 t) 0 = G 22 t := h.2.1
theorem TR.wts {σ : Sg} {P : PT} {G : GS} (h : TR σ P G) : ∀ t, t < nTr G → sR σ 10 (P 7 t) 1 = some (P 8 t) ∧ sT σ (P 8 t) = 23 := h.2.2.1
theorem TR.grv {σ : Sg} {P : PT} {G : GS} (h : TR σ P G) : ∀ t, t < nTr G → sR σ 10 (P 7 t) 2 = some (P 9 t) ∧ sT σ (P 9 t) = 24 := h.2.2.2.1
theorem TR.lim {σ : Sg} {P : PT} {G : GS} (h : TR σ P G) : ∀ t, t < nTr G → sI σ 10 (P 7 t) 3 = G 23 t := h.2.2.2.2.1
theorem TR.wt {σ : Sg} {P : PT} {G : GS} (h : TR σ P G) : ∀ t, t < nTr G → ∀ k, k < 10 → sI σ 23 (P 8 t) k = G 24 (10 * t + k) := h.2.2.2.2.2.1
theorem TR.gr {σ : Sg} {P : PT} {G : GS} (h : TR σ P G) : ∀ t, t < nTr G → ∀ k, k < 4 → sI σ 24 (P 9 t) k = G 25 (4 * t + k) := h.2.2.2.2.2.2
def NJ (P : PT) (G : GS) : Prop := (∀ i j, i < nSh G → j < nSh G → P 2 i = P 2 j → i = j) ∧ (∀ i j, i < nSh G → j < nSh G → P 4 i = P 4 j → i = j) ∧ (∀ i j, i < nLk G → j < nLk G → P 6 i = P 6 j → i = j)
def Rp (σ : Sg) (x : Nat) (P : PT) (G : GS) : Prop := FX σ x P ∧ SC σ x P G ∧ OW σ P G ∧ SH σ P G ∧ CA σ P G ∧ LO σ P G ∧ TR σ P G ∧ NJ P G
theorem Rp.F {σ : Sg} {x : Nat} {P : PT} {G : GS} (h : Rp σ x P G) : FX σ x P := h.1
theorem Rp.S {σ : Sg} {x : Nat} {P : PT} {G : GS} (h : Rp σ x P G) : SC σ x P G := h.2.1
theorem Rp.O {σ : Sg} {x : Nat} {P : PT} {G : GS} (h : Rp σ x P G) : OW σ P G := h.2.2.1
theorem Rp.H {σ : Sg} {x : Nat} {P : PT} {G : GS} (h : Rp σ x P G) : SH σ P G := h.2.2.2.1
theorem Rp.C {σ : Sg} {x : Nat} {P : PT} {G : GS} (h : Rp σ x P G) : CA σ P G := h.2.2.2.2.1
theorem Rp.L {σ : Sg} {x : Nat} {P : PT} {G : GS} (h : Rp σ x P G) : LO σ P G := h.2.2.2.2.2.1
theorem Rp.T {σ : Sg} {x : Nat} {P : PT} {G : GS} (h : Rp σ x P G) : TR σ P G := h.2.2.2.2.2.2.1
theorem Rp.J {σ : Sg} {x : Nat} {P : PT} {G : GS} (h : Rp σ x P G) : NJ P G := h.2.2.2.2.2.2.2
