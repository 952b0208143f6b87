/-! THE CLASS'S CELLS AS A STATE: numbers (0 length, 1 luck, 2 draws, 3 ended, 4 words, 5 order, 6 way, 7 number, 8 sum, 9 kinds, 10 least, 20 leastBehind, 11 the script's size, 12 + i the tallies' sizes) and arrays, by place -/
abbrev US : Type := (Nat → Int) × (Nat → Nat → Int)
def iA (f : Nat → Int) : Nat → Int32 := fun j => iI (f j)
/-- which of the two rows a field of Search holds -/
def lb (z : Int) : Nat := if z = 0 then 13 else 14

def WS (κ a : Nat → Nat) (u : US) : va_W := [
  (a 0, .inr (5, [.ref (a 1), .ref (a 2), .ref (a 3), .ref (a 4), .ref (a 5), .ref (a 6), .int (iI (u.1 0)), .int (iI (u.1 1)), .int (iI (u.1 2)), .int (iI (u.1 3))])),
  (a 1, .inr (0, [.int (iI (u.1 4)), .int (iI (u.1 5)), .ref (a 7), .ref (a 8)])),
  (a 2, .inr (1, [.ref (a 1), .int (iI (u.1 6)), .int (iI (u.1 7)), .ref (a 9), .ref (a 10), .long (lI (u.1 8)), .int (iI (u.1 9))])),
  (a 3, .inr (3, [.ref (a 1), .ref (a 2), .ref (a 11), .ref (a 12), .ref (a (lb (u.1 10))), .ref (a (lb (u.1 20)))])),
  (a 4, .inr (2, [.ref (a 15), .ref (a 16), .ref (a 17), .int (iI (u.1 11))])),
  (a 5, .inl (κ 1, 852, .inl (iA (u.2 5)))),
  (a 6, .inl (κ 0, 12, .inl (iA (u.2 6)))),
  (a 7, .inl (κ 2, 4, .inr (.inr (.inr (.inr (fun j => some (a (30 + 3 * j)))))))),
  (a 8, .inl (κ 2, 4, .inr (.inr (.inr (.inr (fun j => some (a (42 + 3 * j)))))))),
  (a 9, .inl (κ 0, 13, .inl (iA (u.2 9)))),
  (a 10, .inl (κ 0, 13, .inl (iA (u.2 10)))),
  (a 11, .inl (κ 0, 22464, .inl (iA (u.2 11)))),
  (a 12, .inl (κ 3, 12, .inr (.inr (.inr (.inr (fun j => some (a (18 + j)))))))),
  (a 13, .inl (κ 0, 1728, .inl (iA (u.2 13)))),
  (a 14, .inl (κ 0, 1728, .inl (iA (u.2 14)))),
  (a 15, .inl (κ 0, 12, .inl (iA (u.2 15)))),
  (a 16, .inl (κ 0, 12, .inl (iA (u.2 16)))),
  (a 17, .inl (κ 0, 12, .inl (iA (u.2 17)))),
  (a 18, .inl (κ 0, 1728, .inl (iA (u.2 18)))),
  (a 19, .inl (κ 0, 1728, .inl (iA (u.2 19)))),
  (a 20, .inl (κ 0, 1728, .inl (iA (u.2 20)))),
  (a 21, .inl (κ 0, 1728, .inl (iA (u.2 21)))),
  (a 22, .inl (κ 0, 1728, .inl (iA (u.2 22)))),
  (a 23, .inl (κ 0, 1728, .inl (iA (u.2 23)))),
  (a 24, .inl (κ 0, 1728, .inl (iA (u.2 24)))),
  (a 25, .inl (κ 0, 1728, .inl (iA (u.2 25)))),
  (a 26, .inl (κ 0, 1728, .inl (iA (u.2 26)))),
  (a 27, .inl (κ 0, 1728, .inl (iA (u.2 27)))),
  (a 28, .inl (κ 0, 1728, .inl (iA (u.2 28)))),
  (a 29, .inl (κ 0, 1728, .inl (iA (u.2 29)))),
  (a 30, .inr (4, [.ref (a 31), .ref (a 32), .int (iI (u.1 12))])),
  (a 31, .inl (κ 0, 852, .inl (iA (u.2 31)))),
  (a 32, .inl (κ 0, 852, .inl (iA (u.2 32)))),
  (a 33, .inr (4, [.ref (a 34), .ref (a 35), .int (iI (u.1 13))])),
  (a 34, .inl (κ 0, 852, .inl (iA (u.2 34)))),
  (a 35, .inl (κ 0, 852, .inl (iA (u.2 35)))),
  (a 36, .inr (4, [.ref (a 37), .ref (a 38), .int (iI (u.1 14))])),
  (a 37, .inl (κ 0, 852, .inl (iA (u.2 37)))),
  (a 38, .inl (κ 0, 852, .inl (iA (u.2 38)))),
  (a 39, .inr (4, [.ref (a 40), .ref (a 41), .int (iI (u.1 15))])),
  (a 40, .inl (κ 0, 852, .inl (iA (u.2 40)))),
  (a 41, .inl (κ 0, 852, .inl (iA (u.2 41)))),
  (a 42, .inr (4, [.ref (a 43), .ref (a 44), .int (iI (u.1 16))])),
  (a 43, .inl (κ 0, 852, .inl (iA (u.2 43)))),
  (a 44, .inl (κ 0, 852, .inl (iA (u.2 44)))),
  (a 45, .inr (4, [.ref (a 46), .ref (a 47), .int (iI (u.1 17))])),
  (a 46, .inl (κ 0, 852, .inl (iA (u.2 46)))),
  (a 47, .inl (κ 0, 852, .inl (iA (u.2 47)))),
  (a 48, .inr (4, [.ref (a 49), .ref (a 50), .int (iI (u.1 18))])),
  (a 49, .inl (κ 0, 852, .inl (iA (u.2 49)))),
  (a 50, .inl (κ 0, 852, .inl (iA (u.2 50)))),
  (a 51, .inr (4, [.ref (a 52), .ref (a 53), .int (iI (u.1 19))])),
  (a 52, .inl (κ 0, 852, .inl (iA (u.2 52)))),
  (a 53, .inl (κ 0, 852, .inl (iA (u.2 53))))]

def W0 (κ a : Nat → Nat) : US → va_W × Nat × Nat := fun u => (WS κ a u, 0, 0)
def uS (u : US) (k : Nat) (v : Int) : US := (fun j => if j = k then v else u.1 j, u.2)
def upI (f : Nat → Int) (i : Nat) (v : Int) : Nat → Int := fun j => if j = i then v else f j
def cpI (f : Nat → Int) (sp dp n : Nat) : Nat → Int := fun j => if dp ≤ j ∧ j < dp + n then f (sp + (j - dp)) else f j
/-- the array at the place k is g -/
def uA (u : US) (k : Nat) (g : Nat → Int) : US := (u.1, fun k' => if k' = k then g else u.2 k')
theorem upd_iA (f : Nat → Int) (i : Nat) (v : Int) : upd (iA f) i (iI v) = iA (upI f i v) := by
  funext j
  unfold upd iA upI
  split <;> rfl
theorem cpy_iA (f : Nat → Int) (sp dp n : Nat) : va_cpy (iA f) (iA f) sp dp n = iA (cpI f sp dp n) := by
  funext j
  unfold va_cpy iA cpI
  split <;> rfl
theorem uS_at (u : US) (k : Nat) (v : Int) : (uS u k v).1 k = v := if_pos rfl
theorem uS_ne (u : US) {k j : Nat} (v : Int) (h : j ≠ k) : (uS u k v).1 j = u.1 j := if_neg h
theorem uA_at (u : US) (k : Nat) (g : Nat → Int) : (uA u k g).2 k = g := if_pos rfl
theorem uA_ne (u : US) {k j : Nat} (g : Nat → Int) (h : j ≠ k) : (uA u k g).2 j = u.2 j := if_neg h
/-- all but the listed numbers and arrays is as it was -/
def Fr (ls gs : List Nat) (u u' : US) : Prop := (∀ k, k ∉ ls → u'.1 k = u.1 k) ∧ (∀ k, k ∉ gs → u'.2 k = u.2 k)
theorem Fr.rfl {ls gs : List Nat} {u : US} : Fr ls gs u u := ⟨fun _ _ => Eq.refl _, fun _ _ => Eq.refl _⟩
theorem Fr.tr {ls gs : List Nat} {u v w : US} (h1 : Fr ls gs u v) (h2 : Fr ls gs v w) : Fr ls gs u w := ⟨fun k h => (h2.1 k h).trans (h1.1 k h), fun k h => (h2.2 k h).trans (h1.2 k h)⟩
theorem Fr.mono {ls gs ls' gs' : List Nat} {u v : US} (h : Fr ls gs u v) (h1 : ∀ k, k ∉ ls' → k ∉ ls) (h2 : ∀ k, k ∉ gs' → k ∉ gs) : Fr ls' gs' u v := ⟨fun k hk => h.1 k (h1 k hk), fun k hk => h.2 k (h2 k hk)⟩
theorem Fr.S {ls gs : List Nat} {u : US} {k : Nat} {v : Int} (h : k ∈ ls) : Fr ls gs u (uS u k v) := ⟨fun j hj => uS_ne u v (fun e => hj (e ▸ h)), fun _ _ => Eq.refl _⟩
theorem Fr.A {ls gs : List Nat} {u : US} {k : Nat} {g : Nat → Int} (h : k ∈ gs) : Fr ls gs u (uA u k g) := ⟨fun _ _ => Eq.refl _, fun j hj => uA_ne u g (fun e => hj (e ▸ h))⟩
section WROWS
variable {l : Launch} {D : va_G} {κ a : Nat → Nat} {ε : EE} {own : String} {cc : ByteArray} {mL : Nat} {ret : Option FieldType} {R : Room} {post : Option Value → US → Prop} {Γ : US → Nat → Array Slot → List Value → Prop} {u : US} {pc : Nat} {L : List (Nat × Value)} {st : List Value}

theorem g0_length (h : Cx (W0 κ a) l D κ ε own cc mL ret R post Γ) {ix : Nat} {z : Int} (hz : u.1 0 = z) (hl : Cond.fieldLink own ix "Canticle" "length" "I" ∈ Wall) (d : decode cc pc = .ok (.getfield ix, 3)) (k : WW Γ mL u (pc + 3) L (.int (iI z) :: st)) : WW Γ mL u pc L (.ref (a 0) :: st) := by
  subst hz
  exact w_get h wi_X5 0 rfl rfl 6 (by decide) hl rfl rfl d k

theorem p0_length (h : Cx (W0 κ a) l D κ ε own cc mL ret R post Γ) {ix : Nat} {z : Int} (hl : Cond.fieldLink own ix "Canticle" "length" "I" ∈ Wall) (d : decode cc pc = .ok (.putfield ix, 3)) (k : WW Γ mL (uS u 0 z) (pc + 3) L st) : WW Γ mL u pc L (.int (iI z) :: .ref (a 0) :: st) := w_put h wi_X5 tyX5 tyX5_ok nmX5 0 rfl rfl 6 (by decide) hl rfl rfl (ty := .int) (by decide +kernel) rfl rfl (Nat.le_of_ble_eq_true rfl) d (uS u 0 z) rfl rfl k

theorem g0_luck (h : Cx (W0 κ a) l D κ ε own cc mL ret R post Γ) {ix : Nat} {z : Int} (hz : u.1 1 = z) (hl : Cond.fieldLink own ix "Canticle" "luck" "I" ∈ Wall) (d : decode cc pc = .ok (.getfield ix, 3)) (k : WW Γ mL u (pc + 3) L (.int (iI z) :: st)) : WW Γ mL u pc L (.ref (a 0) :: st) := by
  subst hz
  exact w_get h wi_X5 0 rfl rfl 7 (by decide) hl rfl rfl d k

theorem p0_luck (h : Cx (W0 κ a) l D κ ε own cc mL ret R post Γ) {ix : Nat} {z : Int} (hl : Cond.fieldLink own ix "Canticle" "luck" "I" ∈ Wall) (d : decode cc pc = .ok (.putfield ix, 3)) (k : WW Γ mL (uS u 1 z) (pc + 3) L st) : WW Γ mL u pc L (.int (iI z) :: .ref (a 0) :: st) := w_put h wi_X5 tyX5 tyX5_ok nmX5 0 rfl rfl 7 (by decide) hl rfl rfl (ty := .int) (by decide +kernel) rfl rfl (Nat.le_of_ble_eq_true rfl) d (uS u 1 z) rfl rfl k

theorem g0_draws (h : Cx (W0 κ a) l D κ ε own cc mL ret R post Γ) {ix : Nat} {z : Int} (hz : u.1 2 = z) (hl : Cond.fieldLink own ix "Canticle" "draws" "I" ∈ Wall) (d : decode cc pc = .ok (.getfield ix, 3)) (k : WW Γ mL u (pc + 3) L (.int (iI z) :: st)) : WW Γ mL u pc L (.ref (a 0) :: st) := by
  subst hz
  exact w_get h wi_X5 0 rfl rfl 8 (by decide) hl rfl rfl d k

theorem p0_draws (h : Cx (W0 κ a) l D κ ε own cc mL ret R post Γ) {ix : Nat} {z : Int} (hl : Cond.fieldLink own ix "Canticle" "draws" "I" ∈ Wall) (d : decode cc pc = .ok (.putfield ix, 3)) (k : WW Γ mL (uS u 2 z) (pc + 3) L st) : WW Γ mL u pc L (.int (iI z) :: .ref (a 0) :: st) := w_put h wi_X5 tyX5 tyX5_ok nmX5 0 rfl rfl 8 (by decide) hl rfl rfl (ty := .int) (by decide +kernel) rfl rfl (Nat.le_of_ble_eq_true rfl) d (uS u 2 z) rfl rfl k

theorem g0_ended (h : Cx (W0 κ a) l D κ ε own cc mL ret R post Γ) {ix : Nat} {z : Int} (hz : u.1 3 = z) (hl : Cond.fieldLink own ix "Canticle" "ended" "Z" ∈ Wall) (d : decode cc pc = .ok (.getfield ix, 3)) (k : WW Γ mL u (pc + 3) L (.int (iI z) :: st)) : WW Γ mL u pc L (.ref (a 0) :: st) := by
  subst hz
  exact w_get h wi_X5 0 rfl rfl 9 (by decide) hl rfl rfl d k

theorem p0_ended (h : Cx (W0 κ a) l D κ ε own cc mL ret R post Γ) {ix : Nat} {z : Int} (h01 : z = 0 ∨ z = 1) (hl : Cond.fieldLink own ix "Canticle" "ended" "Z" ∈ Wall) (d : decode cc pc = .ok (.putfield ix, 3)) (k : WW Γ mL (uS u 3 z) (pc + 3) L st) : WW Γ mL u pc L (.int (iI z) :: .ref (a 0) :: st) := w_put h wi_X5 tyX5 tyX5_ok nmX5 0 rfl rfl 9 (by decide) hl rfl rfl (ty := .boolean) (by decide +kernel) (by rcases h01 with rfl | rfl <;> rfl) (by rcases h01 with rfl | rfl <;> rfl) (Nat.le_of_ble_eq_true rfl) d (uS u 3 z) rfl rfl k

theorem g1_words (h : Cx (W0 κ a) l D κ ε own cc mL ret R post Γ) {ix : Nat} {z : Int} (hz : u.1 4 = z) (hl : Cond.fieldLink own ix "Canticle$Ledger" "words" "I" ∈ Wall) (d : decode cc pc = .ok (.getfield ix, 3)) (k : WW Γ mL u (pc + 3) L (.int (iI z) :: st)) : WW Γ mL u pc L (.ref (a 1) :: st) := by
  subst hz
  exact w_get h wi_X0 1 rfl rfl 0 (by decide) hl rfl rfl d k

theorem p1_words (h : Cx (W0 κ a) l D κ ε own cc mL ret R post Γ) {ix : Nat} {z : Int} (hl : Cond.fieldLink own ix "Canticle$Ledger" "words" "I" ∈ Wall) (d : decode cc pc = .ok (.putfield ix, 3)) (k : WW Γ mL (uS u 4 z) (pc + 3) L st) : WW Γ mL u pc L (.int (iI z) :: .ref (a 1) :: st) := w_put h wi_X0 tyX0 tyX0_ok nmX0 1 rfl rfl 0 (by decide) hl rfl rfl (ty := .int) (by decide +kernel) rfl rfl (Nat.le_of_ble_eq_true rfl) d (uS u 4 z) rfl rfl k

theorem g1_order (h : Cx (W0 κ a) l D κ ε own cc mL ret R post Γ) {ix : Nat} {z : Int} (hz : u.1 5 = z) (hl : Cond.fieldLink own ix "Canticle$Ledger" "order" "I" ∈ Wall) (d : decode cc pc = .ok (.getfield ix, 3)) (k : WW Γ mL u (pc + 3) L (.int (iI z) :: st)) : WW Γ mL u pc L (.ref (a 1) :: st) := by
  subst hz
  exact w_get h wi_X0 1 rfl rfl 1 (by decide) hl rfl rfl d k

theorem p1_order (h : Cx (W0 κ a) l D κ ε own cc mL ret R post Γ) {ix : Nat} {z : Int} (hl : Cond.fieldLink own ix "Canticle$Ledger" "order" "I" ∈ Wall) (d : decode cc pc = .ok (.putfield ix, 3)) (k : WW Γ mL (uS u 5 z) (pc + 3) L st) : WW Γ mL u pc L (.int (iI z) :: .ref (a 1) :: st) := w_put h wi_X0 tyX0 tyX0_ok nmX0 1 rfl rfl 1 (by decide) hl rfl rfl (ty := .int) (by decide +kernel) rfl rfl (Nat.le_of_ble_eq_true rfl) d (uS u 5 z) rfl rfl k

theorem g2_way (h : Cx (W0 κ a) l D κ ε own cc mL ret R post Γ) {ix : Nat} {z : Int} (hz : u.1 6 = z) (hl : Cond.fieldLink own ix "Canticle$Reckoner" "way" "I" ∈ Wall) (d : decode cc pc = .ok (.getfield ix, 3)) (k : WW Γ mL u (pc + 3) L (.int (iI z) :: st)) : WW Γ mL u pc L (.ref (a 2) :: st) := by
  subst hz
  exact w_get h wi_X1 2 rfl rfl 1 (by decide) hl rfl rfl d k

theorem p2_way (h : Cx (W0 κ a) l D κ ε own cc mL ret R post Γ) {ix : Nat} {z : Int} (hl : Cond.fieldLink own ix "Canticle$Reckoner" "way" "I" ∈ Wall) (d : decode cc pc = .ok (.putfield ix, 3)) (k : WW Γ mL (uS u 6 z) (pc + 3) L st) : WW Γ mL u pc L (.int (iI z) :: .ref (a 2) :: st) := w_put h wi_X1 tyX1 tyX1_ok nmX1 2 rfl rfl 1 (by decide) hl rfl rfl (ty := .int) (by decide +kernel) rfl rfl (Nat.le_of_ble_eq_true rfl) d (uS u 6 z) rfl rfl k

theorem g2_number (h : Cx (W0 κ a) l D κ ε own cc mL ret R post Γ) {ix : Nat} {z : Int} (hz : u.1 7 = z) (hl : Cond.fieldLink own ix "Canticle$Reckoner" "number" "I" ∈ Wall) (d : decode cc pc = .ok (.getfield ix, 3)) (k : WW Γ mL u (pc + 3) L (.int (iI z) :: st)) : WW Γ mL u pc L (.ref (a 2) :: st) := by
  subst hz
  exact w_get h wi_X1 2 rfl rfl 2 (by decide) hl rfl rfl d k

theorem p2_number (h : Cx (W0 κ a) l D κ ε own cc mL ret R post Γ) {ix : Nat} {z : Int} (hl : Cond.fieldLink own ix "Canticle$Reckoner" "number" "I" ∈ Wall) (d : decode cc pc = .ok (.putfield ix, 3)) (k : WW Γ mL (uS u 7 z) (pc + 3) L st) : WW Γ mL u pc L (.int (iI z) :: .ref (a 2) :: st) := w_put h wi_X1 tyX1 tyX1_ok nmX1 2 rfl rfl 2 (by decide) hl rfl rfl (ty := .int) (by decide +kernel) rfl rfl (Nat.le_of_ble_eq_true rfl) d (uS u 7 z) rfl rfl k

theorem g2_sum (h : Cx (W0 κ a) l D κ ε own cc mL ret R post Γ) {ix : Nat} {z : Int} (hz : u.1 8 = z) (hl : Cond.fieldLink own ix "Canticle$Reckoner" "sum" "J" ∈ Wall) (d : decode cc pc = .ok (.getfield ix, 3)) (k : WW Γ mL u (pc + 3) L (.long (lI z) :: st)) : WW Γ mL u pc L (.ref (a 2) :: st) := by
  subst hz
  exact w_get h wi_X1 2 rfl rfl 5 (by decide) hl rfl rfl d k

theorem p2_sum (h : Cx (W0 κ a) l D κ ε own cc mL ret R post Γ) {ix : Nat} {z : Int} (hl : Cond.fieldLink own ix "Canticle$Reckoner" "sum" "J" ∈ Wall) (d : decode cc pc = .ok (.putfield ix, 3)) (k : WW Γ mL (uS u 8 z) (pc + 3) L st) : WW Γ mL u pc L (.long (lI z) :: .ref (a 2) :: st) := w_put h wi_X1 tyX1 tyX1_ok nmX1 2 rfl rfl 5 (by decide) hl rfl rfl (ty := .long) (by decide +kernel) rfl rfl (Nat.le_of_ble_eq_true rfl) d (uS u 8 z) rfl rfl k

theorem g2_kinds (h : Cx (W0 κ a) l D κ ε own cc mL ret R post Γ) {ix : Nat} {z : Int} (hz : u.1 9 = z) (hl : Cond.fieldLink own ix "Canticle$Reckoner" "kinds" "I" ∈ Wall) (d : decode cc pc = .ok (.getfield ix, 3)) (k : WW Γ mL u (pc + 3) L (.int (iI z) :: st)) : WW Γ mL u pc L (.ref (a 2) :: st) := by
  subst hz
  exact w_get h wi_X1 2 rfl rfl 6 (by decide) hl rfl rfl d k

theorem p2_kinds (h : Cx (W0 κ a) l D κ ε own cc mL ret R post Γ) {ix : Nat} {z : Int} (hl : Cond.fieldLink own ix "Canticle$Reckoner" "kinds" "I" ∈ Wall) (d : decode cc pc = .ok (.putfield ix, 3)) (k : WW Γ mL (uS u 9 z) (pc + 3) L st) : WW Γ mL u pc L (.int (iI z) :: .ref (a 2) :: st) := w_put h wi_X1 tyX1 tyX1_ok nmX1 2 rfl rfl 6 (by decide) hl rfl rfl (ty := .int) (by decide +kernel) rfl rfl (Nat.le_of_ble_eq_true rfl) d (uS u 9 z) rfl rfl k

theorem g4_size (h : Cx (W0 κ a) l D κ ε own cc mL ret R post Γ) {ix : Nat} {z : Int} (hz : u.1 11 = z) (hl : Cond.fieldLink own ix "Canticle$Script" "size" "I" ∈ Wall) (d : decode cc pc = .ok (.getfield ix, 3)) (k : WW Γ mL u (pc + 3) L (.int (iI z) :: st)) : WW Γ mL u pc L (.ref (a 4) :: st) := by
  subst hz
  exact w_get h wi_X2 4 rfl rfl 3 (by decide) hl rfl rfl d k

theorem p4_size (h : Cx (W0 κ a) l D κ ε own cc mL ret R post Γ) {ix : Nat} {z : Int} (hl : Cond.fieldLink own ix "Canticle$Script" "size" "I" ∈ Wall) (d : decode cc pc = .ok (.putfield ix, 3)) (k : WW Γ mL (uS u 11 z) (pc + 3) L st) : WW Γ mL u pc L (.int (iI z) :: .ref (a 4) :: st) := w_put h wi_X2 tyX2 tyX2_ok nmX2 4 rfl rfl 3 (by decide) hl rfl rfl (ty := .int) (by decide +kernel) rfl rfl (Nat.le_of_ble_eq_true rfl) d (uS u 11 z) rfl rfl k

theorem g0_ledger (h : Cx (W0 κ a) l D κ ε own cc mL ret R post Γ) {ix : Nat} (hl : Cond.fieldLink own ix "Canticle" "ledger" "LCanticle$Ledger;" ∈ Wall) (d : decode cc pc = .ok (.getfield ix, 3)) (k : WW Γ mL u (pc + 3) L (.ref (a 1) :: st)) : WW Γ mL u pc L (.ref (a 0) :: st) := w_get h wi_X5 0 rfl rfl 0 (by decide) hl rfl rfl d k

theorem g0_reckoner (h : Cx (W0 κ a) l D κ ε own cc mL ret R post Γ) {ix : Nat} (hl : Cond.fieldLink own ix "Canticle" "reckoner" "LCanticle$Reckoner;" ∈ Wall) (d : decode cc pc = .ok (.getfield ix, 3)) (k : WW Γ mL u (pc + 3) L (.ref (a 2) :: st)) : WW Γ mL u pc L (.ref (a 0) :: st) := w_get h wi_X5 0 rfl rfl 1 (by decide) hl rfl rfl d k

theorem g0_search (h : Cx (W0 κ a) l D κ ε own cc mL ret R post Γ) {ix : Nat} (hl : Cond.fieldLink own ix "Canticle" "search" "LCanticle$Search;" ∈ Wall) (d : decode cc pc = .ok (.getfield ix, 3)) (k : WW Γ mL u (pc + 3) L (.ref (a 3) :: st)) : WW Γ mL u pc L (.ref (a 0) :: st) := w_get h wi_X5 0 rfl rfl 2 (by decide) hl rfl rfl d k

theorem g0_script (h : Cx (W0 κ a) l D κ ε own cc mL ret R post Γ) {ix : Nat} (hl : Cond.fieldLink own ix "Canticle" "script" "LCanticle$Script;" ∈ Wall) (d : decode cc pc = .ok (.getfield ix, 3)) (k : WW Γ mL u (pc + 3) L (.ref (a 4) :: st)) : WW Γ mL u pc L (.ref (a 0) :: st) := w_get h wi_X5 0 rfl rfl 3 (by decide) hl rfl rfl d k

theorem g0_doomed (h : Cx (W0 κ a) l D κ ε own cc mL ret R post Γ) {ix : Nat} (hl : Cond.fieldLink own ix "Canticle" "doomed" "[Z" ∈ Wall) (d : decode cc pc = .ok (.getfield ix, 3)) (k : WW Γ mL u (pc + 3) L (.ref (a 5) :: st)) : WW Γ mL u pc L (.ref (a 0) :: st) := w_get h wi_X5 0 rfl rfl 4 (by decide) hl rfl rfl d k

theorem g0_sentence (h : Cx (W0 κ a) l D κ ε own cc mL ret R post Γ) {ix : Nat} (hl : Cond.fieldLink own ix "Canticle" "sentence" "[I" ∈ Wall) (d : decode cc pc = .ok (.getfield ix, 3)) (k : WW Γ mL u (pc + 3) L (.ref (a 6) :: st)) : WW Γ mL u pc L (.ref (a 0) :: st) := w_get h wi_X5 0 rfl rfl 5 (by decide) hl rfl rfl d k

theorem g1_counted (h : Cx (W0 κ a) l D κ ε own cc mL ret R post Γ) {ix : Nat} (hl : Cond.fieldLink own ix "Canticle$Ledger" "counted" "[LCanticle$Tally;" ∈ Wall) (d : decode cc pc = .ok (.getfield ix, 3)) (k : WW Γ mL u (pc + 3) L (.ref (a 7) :: st)) : WW Γ mL u pc L (.ref (a 1) :: st) := w_get h wi_X0 1 rfl rfl 2 (by decide) hl rfl rfl d k

theorem g1_varied (h : Cx (W0 κ a) l D κ ε own cc mL ret R post Γ) {ix : Nat} (hl : Cond.fieldLink own ix "Canticle$Ledger" "varied" "[LCanticle$Tally;" ∈ Wall) (d : decode cc pc = .ok (.getfield ix, 3)) (k : WW Γ mL u (pc + 3) L (.ref (a 8) :: st)) : WW Γ mL u pc L (.ref (a 1) :: st) := w_get h wi_X0 1 rfl rfl 3 (by decide) hl rfl rfl d k

theorem g2_ledger (h : Cx (W0 κ a) l D κ ε own cc mL ret R post Γ) {ix : Nat} (hl : Cond.fieldLink own ix "Canticle$Reckoner" "ledger" "LCanticle$Ledger;" ∈ Wall) (d : decode cc pc = .ok (.getfield ix, 3)) (k : WW Γ mL u (pc + 3) L (.ref (a 1) :: st)) : WW Γ mL u pc L (.ref (a 2) :: st) := w_get h wi_X1 2 rfl rfl 0 (by decide) hl rfl rfl d k

theorem g2_chances (h : Cx (W0 κ a) l D κ ε own cc mL ret R post Γ) {ix : Nat} (hl : Cond.fieldLink own ix "Canticle$Reckoner" "chances" "[I" ∈ Wall) (d : decode cc pc = .ok (.getfield ix, 3)) (k : WW Γ mL u (pc + 3) L (.ref (a 9) :: st)) : WW Γ mL u pc L (.ref (a 2) :: st) := w_get h wi_X1 2 rfl rfl 3 (by decide) hl rfl rfl d k

theorem g2_own (h : Cx (W0 κ a) l D κ ε own cc mL ret R post Γ) {ix : Nat} (hl : Cond.fieldLink own ix "Canticle$Reckoner" "own" "[I" ∈ Wall) (d : decode cc pc = .ok (.getfield ix, 3)) (k : WW Γ mL u (pc + 3) L (.ref (a 10) :: st)) : WW Γ mL u pc L (.ref (a 2) :: st) := w_get h wi_X1 2 rfl rfl 4 (by decide) hl rfl rfl d k

theorem g3_ledger (h : Cx (W0 κ a) l D κ ε own cc mL ret R post Γ) {ix : Nat} (hl : Cond.fieldLink own ix "Canticle$Search" "ledger" "LCanticle$Ledger;" ∈ Wall) (d : decode cc pc = .ok (.getfield ix, 3)) (k : WW Γ mL u (pc + 3) L (.ref (a 1) :: st)) : WW Γ mL u pc L (.ref (a 3) :: st) := w_get h wi_X3 3 rfl rfl 0 (by decide) hl rfl rfl d k

theorem g3_reckoner (h : Cx (W0 κ a) l D κ ε own cc mL ret R post Γ) {ix : Nat} (hl : Cond.fieldLink own ix "Canticle$Search" "reckoner" "LCanticle$Reckoner;" ∈ Wall) (d : decode cc pc = .ok (.getfield ix, 3)) (k : WW Γ mL u (pc + 3) L (.ref (a 2) :: st)) : WW Γ mL u pc L (.ref (a 3) :: st) := w_get h wi_X3 3 rfl rfl 1 (by decide) hl rfl rfl d k

theorem g3_costs (h : Cx (W0 κ a) l D κ ε own cc mL ret R post Γ) {ix : Nat} (hl : Cond.fieldLink own ix "Canticle$Search" "costs" "[I" ∈ Wall) (d : decode cc pc = .ok (.getfield ix, 3)) (k : WW Γ mL u (pc + 3) L (.ref (a 11) :: st)) : WW Γ mL u pc L (.ref (a 3) :: st) := w_get h wi_X3 3 rfl rfl 2 (by decide) hl rfl rfl d k

theorem g3_choices (h : Cx (W0 κ a) l D κ ε own cc mL ret R post Γ) {ix : Nat} (hl : Cond.fieldLink own ix "Canticle$Search" "choices" "[[I" ∈ Wall) (d : decode cc pc = .ok (.getfield ix, 3)) (k : WW Γ mL u (pc + 3) L (.ref (a 12) :: st)) : WW Γ mL u pc L (.ref (a 3) :: st) := w_get h wi_X3 3 rfl rfl 3 (by decide) hl rfl rfl d k

theorem g4_codes (h : Cx (W0 κ a) l D κ ε own cc mL ret R post Γ) {ix : Nat} (hl : Cond.fieldLink own ix "Canticle$Script" "codes" "[I" ∈ Wall) (d : decode cc pc = .ok (.getfield ix, 3)) (k : WW Γ mL u (pc + 3) L (.ref (a 15) :: st)) : WW Γ mL u pc L (.ref (a 4) :: st) := w_get h wi_X2 4 rfl rfl 0 (by decide) hl rfl rfl d k

theorem g4_numbers (h : Cx (W0 κ a) l D κ ε own cc mL ret R post Γ) {ix : Nat} (hl : Cond.fieldLink own ix "Canticle$Script" "numbers" "[I" ∈ Wall) (d : decode cc pc = .ok (.getfield ix, 3)) (k : WW Γ mL u (pc + 3) L (.ref (a 16) :: st)) : WW Γ mL u pc L (.ref (a 4) :: st) := w_get h wi_X2 4 rfl rfl 1 (by decide) hl rfl rfl d k

theorem g4_returns (h : Cx (W0 κ a) l D κ ε own cc mL ret R post Γ) {ix : Nat} (hl : Cond.fieldLink own ix "Canticle$Script" "returns" "[I" ∈ Wall) (d : decode cc pc = .ok (.getfield ix, 3)) (k : WW Γ mL u (pc + 3) L (.ref (a 17) :: st)) : WW Γ mL u pc L (.ref (a 4) :: st) := w_get h wi_X2 4 rfl rfl 2 (by decide) hl rfl rfl d k

theorem g3_least (h : Cx (W0 κ a) l D κ ε own cc mL ret R post Γ) {ix : Nat} {z : Int} (hz : u.1 10 = z) (hl : Cond.fieldLink own ix "Canticle$Search" "least" "[I" ∈ Wall) (d : decode cc pc = .ok (.getfield ix, 3)) (k : WW Γ mL u (pc + 3) L (.ref (a (lb z)) :: st)) : WW Γ mL u pc L (.ref (a 3) :: st) := by
  subst hz
  exact w_get h wi_X3 3 rfl rfl 4 (by decide) hl rfl rfl d k

theorem p3_least (h : Cx (W0 κ a) l D κ ε own cc mL ret R post Γ) {ix : Nat} {z : Int} (hl : Cond.fieldLink own ix "Canticle$Search" "least" "[I" ∈ Wall) (d : decode cc pc = .ok (.putfield ix, 3)) (k : WW Γ mL (uS u 10 z) (pc + 3) L st) : WW Γ mL u pc L (.ref (a (lb z)) :: .ref (a 3) :: st) := w_put h wi_X3 tyX3 tyX3_ok nmX3 3 rfl rfl 4 (by decide) hl rfl rfl (ty := .array .int) (by decide +kernel) rfl rfl (Nat.le_of_ble_eq_true rfl) d (uS u 10 z) rfl rfl k

theorem g3_leastBehind (h : Cx (W0 κ a) l D κ ε own cc mL ret R post Γ) {ix : Nat} {z : Int} (hz : u.1 20 = z) (hl : Cond.fieldLink own ix "Canticle$Search" "leastBehind" "[I" ∈ Wall) (d : decode cc pc = .ok (.getfield ix, 3)) (k : WW Γ mL u (pc + 3) L (.ref (a (lb z)) :: st)) : WW Γ mL u pc L (.ref (a 3) :: st) := by
  subst hz
  exact w_get h wi_X3 3 rfl rfl 5 (by decide) hl rfl rfl d k

theorem p3_leastBehind (h : Cx (W0 κ a) l D κ ε own cc mL ret R post Γ) {ix : Nat} {z : Int} (hl : Cond.fieldLink own ix "Canticle$Search" "leastBehind" "[I" ∈ Wall) (d : decode cc pc = .ok (.putfield ix, 3)) (k : WW Γ mL (uS u 20 z) (pc + 3) L st) : WW Γ mL u pc L (.ref (a (lb z)) :: .ref (a 3) :: st) := w_put h wi_X3 tyX3 tyX3_ok nmX3 3 rfl rfl 5 (by decide) hl rfl rfl (ty := .array .int) (by decide +kernel) rfl rfl (Nat.le_of_ble_eq_true rfl) d (uS u 20 z) rfl rfl k

theorem ws_T {κ a : Nat → Nat} {u : US} {i : Nat} (hi : i < 8) : (WS κ a u)[30 + 3 * i]? = some (a (30 + 3 * i), .inr (4, [.ref (a (31 + 3 * i)), .ref (a (32 + 3 * i)), .int (iI (u.1 (12 + i)))])) := by
  rcases (by omega : i = 0 ∨ i = 1 ∨ i = 2 ∨ i = 3 ∨ i = 4 ∨ i = 5 ∨ i = 6 ∨ i = 7) with rfl | rfl | rfl | rfl | rfl | rfl | rfl | rfl <;> rfl

theorem ws_TK {κ a : Nat → Nat} {u : US} {i : Nat} (hi : i < 8) : (WS κ a u)[31 + 3 * i]? = some (a (31 + 3 * i), .inl (κ 0, 852, .inl (iA (u.2 (31 + 3 * i))))) := by
  rcases (by omega : i = 0 ∨ i = 1 ∨ i = 2 ∨ i = 3 ∨ i = 4 ∨ i = 5 ∨ i = 6 ∨ i = 7) with rfl | rfl | rfl | rfl | rfl | rfl | rfl | rfl <;> rfl

theorem ws_TC {κ a : Nat → Nat} {u : US} {i : Nat} (hi : i < 8) : (WS κ a u)[32 + 3 * i]? = some (a (32 + 3 * i), .inl (κ 0, 852, .inl (iA (u.2 (32 + 3 * i))))) := by
  rcases (by omega : i = 0 ∨ i = 1 ∨ i = 2 ∨ i = 3 ∨ i = 4 ∨ i = 5 ∨ i = 6 ∨ i = 7) with rfl | rfl | rfl | rfl | rfl | rfl | rfl | rfl <;> rfl

theorem st_T {κ a : Nat → Nat} {u : US} {i : Nat} {z : Int} (hi : i < 8) : (WS κ a u).set (30 + 3 * i) (a (30 + 3 * i), .inr (4, [.ref (a (31 + 3 * i)), .ref (a (32 + 3 * i)), .int (iI z)])) = WS κ a (uS u (12 + i) z) := by
  rcases (by omega : i = 0 ∨ i = 1 ∨ i = 2 ∨ i = 3 ∨ i = 4 ∨ i = 5 ∨ i = 6 ∨ i = 7) with rfl | rfl | rfl | rfl | rfl | rfl | rfl | rfl <;> rfl

theorem st_TK {κ a : Nat → Nat} {u : US} {i : Nat} {f : Nat → Int} (hi : i < 8) : (WS κ a u).set (31 + 3 * i) (a (31 + 3 * i), .inl (κ 0, 852, .inl (iA f))) = WS κ a (uA u (31 + 3 * i) f) := by
  rcases (by omega : i = 0 ∨ i = 1 ∨ i = 2 ∨ i = 3 ∨ i = 4 ∨ i = 5 ∨ i = 6 ∨ i = 7) with rfl | rfl | rfl | rfl | rfl | rfl | rfl | rfl <;> rfl

theorem st_TC {κ a : Nat → Nat} {u : US} {i : Nat} {f : Nat → Int} (hi : i < 8) : (WS κ a u).set (32 + 3 * i) (a (32 + 3 * i), .inl (κ 0, 852, .inl (iA f))) = WS κ a (uA u (32 + 3 * i) f) := by
  rcases (by omega : i = 0 ∨ i = 1 ∨ i = 2 ∨ i = 3 ∨ i = 4 ∨ i = 5 ∨ i = 6 ∨ i = 7) with rfl | rfl | rfl | rfl | rfl | rfl | rfl | rfl <;> rfl

theorem gT_size (h : Cx (W0 κ a) l D κ ε own cc mL ret R post Γ) {ix i : Nat} (hi : i < 8) {z : Int} (hz : u.1 (12 + i) = z) (hl : Cond.fieldLink own ix "Canticle$Tally" "size" "I" ∈ Wall) (d : decode cc pc = .ok (.getfield ix, 3)) (k : WW Γ mL u (pc + 3) L (.int (iI z) :: st)) : WW Γ mL u pc L (.ref (a (30 + 3 * i)) :: st) := by
  subst hz
  exact w_get h wi_X4 (30 + 3 * i) (ws_T hi) rfl 2 (by decide) hl rfl rfl d k

theorem pT_size (h : Cx (W0 κ a) l D κ ε own cc mL ret R post Γ) {ix i : Nat} (hi : i < 8) {z : Int} (hl : Cond.fieldLink own ix "Canticle$Tally" "size" "I" ∈ Wall) (d : decode cc pc = .ok (.putfield ix, 3)) (k : WW Γ mL (uS u (12 + i) z) (pc + 3) L st) : WW Γ mL u pc L (.int (iI z) :: .ref (a (30 + 3 * i)) :: st) := w_put h wi_X4 tyX4 tyX4_ok nmX4 (30 + 3 * i) (ws_T hi) rfl 2 (by decide) hl rfl rfl (ty := .int) (by decide +kernel) rfl rfl (Nat.le_of_ble_eq_true rfl) d (uS u (12 + i) z) (st_T hi) rfl k

theorem gT_keys (h : Cx (W0 κ a) l D κ ε own cc mL ret R post Γ) {ix i : Nat} (hi : i < 8) (hl : Cond.fieldLink own ix "Canticle$Tally" "keys" "[I" ∈ Wall) (d : decode cc pc = .ok (.getfield ix, 3)) (k : WW Γ mL u (pc + 3) L (.ref (a (31 + 3 * i)) :: st)) : WW Γ mL u pc L (.ref (a (30 + 3 * i)) :: st) := w_get h wi_X4 (30 + 3 * i) (ws_T hi) rfl 0 (by decide) hl rfl rfl d k

theorem gT_counts (h : Cx (W0 κ a) l D κ ε own cc mL ret R post Γ) {ix i : Nat} (hi : i < 8) (hl : Cond.fieldLink own ix "Canticle$Tally" "counts" "[I" ∈ Wall) (d : decode cc pc = .ok (.getfield ix, 3)) (k : WW Γ mL u (pc + 3) L (.ref (a (32 + 3 * i)) :: st)) : WW Γ mL u pc L (.ref (a (30 + 3 * i)) :: st) := w_get h wi_X4 (30 + 3 * i) (ws_T hi) rfl 1 (by decide) hl rfl rfl d k

theorem ld_sentence (h : Cx (W0 κ a) l D κ ε own cc mL ret R post Γ) {i z : Int} (hi : 0 ≤ i ∧ i < 12) (hz : u.2 6 i.toNat = z) (d : decode cc pc = .ok (.iaload, 1)) (k : WW Γ mL u (pc + 1) L (.int (iI z) :: st)) : WW Γ mL u pc L (.int (iI i) :: .ref (a 6) :: st) := by
  subst hz
  exact w_iald h 6 rfl hi (Nat.le_of_ble_eq_true rfl) rfl d k

theorem st_sentence (h : Cx (W0 κ a) l D κ ε own cc mL ret R post Γ) {i z : Int} (hi : 0 ≤ i ∧ i < 12) (d : decode cc pc = .ok (.iastore, 1)) (k : WW Γ mL (uA u 6 (upI (u.2 6) i.toNat z)) (pc + 1) L st) : WW Γ mL u pc L (.int (iI z) :: .int (iI i) :: .ref (a 6) :: st) := w_iast h 6 rfl hi (Nat.le_of_ble_eq_true rfl) d (uA u 6 (upI (u.2 6) i.toNat z)) (by rw [upd_iA]; exact rfl) rfl k

theorem ld_chances (h : Cx (W0 κ a) l D κ ε own cc mL ret R post Γ) {i z : Int} (hi : 0 ≤ i ∧ i < 13) (hz : u.2 9 i.toNat = z) (d : decode cc pc = .ok (.iaload, 1)) (k : WW Γ mL u (pc + 1) L (.int (iI z) :: st)) : WW Γ mL u pc L (.int (iI i) :: .ref (a 9) :: st) := by
  subst hz
  exact w_iald h 9 rfl hi (Nat.le_of_ble_eq_true rfl) rfl d k

theorem st_chances (h : Cx (W0 κ a) l D κ ε own cc mL ret R post Γ) {i z : Int} (hi : 0 ≤ i ∧ i < 13) (d : decode cc pc = .ok (.iastore, 1)) (k : WW Γ mL (uA u 9 (upI (u.2 9) i.toNat z)) (pc + 1) L st) : WW Γ mL u pc L (.int (iI z) :: .int (iI i) :: .ref (a 9) :: st) := w_iast h 9 rfl hi (Nat.le_of_ble_eq_true rfl) d (uA u 9 (upI (u.2 9) i.toNat z)) (by rw [upd_iA]; exact rfl) rfl k

theorem ld_own (h : Cx (W0 κ a) l D κ ε own cc mL ret R post Γ) {i z : Int} (hi : 0 ≤ i ∧ i < 13) (hz : u.2 10 i.toNat = z) (d : decode cc pc = .ok (.iaload, 1)) (k : WW Γ mL u (pc + 1) L (.int (iI z) :: st)) : WW Γ mL u pc L (.int (iI i) :: .ref (a 10) :: st) := by
  subst hz
  exact w_iald h 10 rfl hi (Nat.le_of_ble_eq_true rfl) rfl d k

theorem st_own (h : Cx (W0 κ a) l D κ ε own cc mL ret R post Γ) {i z : Int} (hi : 0 ≤ i ∧ i < 13) (d : decode cc pc = .ok (.iastore, 1)) (k : WW Γ mL (uA u 10 (upI (u.2 10) i.toNat z)) (pc + 1) L st) : WW Γ mL u pc L (.int (iI z) :: .int (iI i) :: .ref (a 10) :: st) := w_iast h 10 rfl hi (Nat.le_of_ble_eq_true rfl) d (uA u 10 (upI (u.2 10) i.toNat z)) (by rw [upd_iA]; exact rfl) rfl k

theorem ld_costs (h : Cx (W0 κ a) l D κ ε own cc mL ret R post Γ) {i z : Int} (hi : 0 ≤ i ∧ i < 22464) (hz : u.2 11 i.toNat = z) (d : decode cc pc = .ok (.iaload, 1)) (k : WW Γ mL u (pc + 1) L (.int (iI z) :: st)) : WW Γ mL u pc L (.int (iI i) :: .ref (a 11) :: st) := by
  subst hz
  exact w_iald h 11 rfl hi (Nat.le_of_ble_eq_true rfl) rfl d k

theorem st_costs (h : Cx (W0 κ a) l D κ ε own cc mL ret R post Γ) {i z : Int} (hi : 0 ≤ i ∧ i < 22464) (d : decode cc pc = .ok (.iastore, 1)) (k : WW Γ mL (uA u 11 (upI (u.2 11) i.toNat z)) (pc + 1) L st) : WW Γ mL u pc L (.int (iI z) :: .int (iI i) :: .ref (a 11) :: st) := w_iast h 11 rfl hi (Nat.le_of_ble_eq_true rfl) d (uA u 11 (upI (u.2 11) i.toNat z)) (by rw [upd_iA]; exact rfl) rfl k

theorem ld_codes (h : Cx (W0 κ a) l D κ ε own cc mL ret R post Γ) {i z : Int} (hi : 0 ≤ i ∧ i < 12) (hz : u.2 15 i.toNat = z) (d : decode cc pc = .ok (.iaload, 1)) (k : WW Γ mL u (pc + 1) L (.int (iI z) :: st)) : WW Γ mL u pc L (.int (iI i) :: .ref (a 15) :: st) := by
  subst hz
  exact w_iald h 15 rfl hi (Nat.le_of_ble_eq_true rfl) rfl d k

theorem st_codes (h : Cx (W0 κ a) l D κ ε own cc mL ret R post Γ) {i z : Int} (hi : 0 ≤ i ∧ i < 12) (d : decode cc pc = .ok (.iastore, 1)) (k : WW Γ mL (uA u 15 (upI (u.2 15) i.toNat z)) (pc + 1) L st) : WW Γ mL u pc L (.int (iI z) :: .int (iI i) :: .ref (a 15) :: st) := w_iast h 15 rfl hi (Nat.le_of_ble_eq_true rfl) d (uA u 15 (upI (u.2 15) i.toNat z)) (by rw [upd_iA]; exact rfl) rfl k

theorem ld_numbers (h : Cx (W0 κ a) l D κ ε own cc mL ret R post Γ) {i z : Int} (hi : 0 ≤ i ∧ i < 12) (hz : u.2 16 i.toNat = z) (d : decode cc pc = .ok (.iaload, 1)) (k : WW Γ mL u (pc + 1) L (.int (iI z) :: st)) : WW Γ mL u pc L (.int (iI i) :: .ref (a 16) :: st) := by
  subst hz
  exact w_iald h 16 rfl hi (Nat.le_of_ble_eq_true rfl) rfl d k

theorem st_numbers (h : Cx (W0 κ a) l D κ ε own cc mL ret R post Γ) {i z : Int} (hi : 0 ≤ i ∧ i < 12) (d : decode cc pc = .ok (.iastore, 1)) (k : WW Γ mL (uA u 16 (upI (u.2 16) i.toNat z)) (pc + 1) L st) : WW Γ mL u pc L (.int (iI z) :: .int (iI i) :: .ref (a 16) :: st) := w_iast h 16 rfl hi (Nat.le_of_ble_eq_true rfl) d (uA u 16 (upI (u.2 16) i.toNat z)) (by rw [upd_iA]; exact rfl) rfl k

theorem ld_returns (h : Cx (W0 κ a) l D κ ε own cc mL ret R post Γ) {i z : Int} (hi : 0 ≤ i ∧ i < 12) (hz : u.2 17 i.toNat = z) (d : decode cc pc = .ok (.iaload, 1)) (k : WW Γ mL u (pc + 1) L (.int (iI z) :: st)) : WW Γ mL u pc L (.int (iI i) :: .ref (a 17) :: st) := by
  subst hz
  exact w_iald h 17 rfl hi (Nat.le_of_ble_eq_true rfl) rfl d k

theorem st_returns (h : Cx (W0 κ a) l D κ ε own cc mL ret R post Γ) {i z : Int} (hi : 0 ≤ i ∧ i < 12) (d : decode cc pc = .ok (.iastore, 1)) (k : WW Γ mL (uA u 17 (upI (u.2 17) i.toNat z)) (pc + 1) L st) : WW Γ mL u pc L (.int (iI z) :: .int (iI i) :: .ref (a 17) :: st) := w_iast h 17 rfl hi (Nat.le_of_ble_eq_true rfl) d (uA u 17 (upI (u.2 17) i.toNat z)) (by rw [upd_iA]; exact rfl) rfl k

theorem ld_keys (h : Cx (W0 κ a) l D κ ε own cc mL ret R post Γ) {q : Nat} (hq : q < 8) {i z : Int} (hi : 0 ≤ i ∧ i < 852) (hz : u.2 (31 + 3 * q) i.toNat = z) (d : decode cc pc = .ok (.iaload, 1)) (k : WW Γ mL u (pc + 1) L (.int (iI z) :: st)) : WW Γ mL u pc L (.int (iI i) :: .ref (a (31 + 3 * q)) :: st) := by
  subst hz
  exact w_iald h (31 + 3 * q) (ws_TK hq) hi (Nat.le_of_ble_eq_true rfl) rfl d k

theorem st_keys (h : Cx (W0 κ a) l D κ ε own cc mL ret R post Γ) {q : Nat} (hq : q < 8) {i z : Int} (hi : 0 ≤ i ∧ i < 852) (d : decode cc pc = .ok (.iastore, 1)) (k : WW Γ mL (uA u (31 + 3 * q) (upI (u.2 (31 + 3 * q)) i.toNat z)) (pc + 1) L st) : WW Γ mL u pc L (.int (iI z) :: .int (iI i) :: .ref (a (31 + 3 * q)) :: st) := w_iast h (31 + 3 * q) (ws_TK hq) hi (Nat.le_of_ble_eq_true rfl) d (uA u (31 + 3 * q) (upI (u.2 (31 + 3 * q)) i.toNat z)) (by rw [upd_iA]; exact st_TK hq) rfl k

theorem ld_counts (h : Cx (W0 κ a) l D κ ε own cc mL ret R post Γ) {q : Nat} (hq : q < 8) {i z : Int} (hi : 0 ≤ i ∧ i < 852) (hz : u.2 (32 + 3 * q) i.toNat = z) (d : decode cc pc = .ok (.iaload, 1)) (k : WW Γ mL u (pc + 1) L (.int (iI z) :: st)) : WW Γ mL u pc L (.int (iI i) :: .ref (a (32 + 3 * q)) :: st) := by
  subst hz
  exact w_iald h (32 + 3 * q) (ws_TC hq) hi (Nat.le_of_ble_eq_true rfl) rfl d k

theorem st_counts (h : Cx (W0 κ a) l D κ ε own cc mL ret R post Γ) {q : Nat} (hq : q < 8) {i z : Int} (hi : 0 ≤ i ∧ i < 852) (d : decode cc pc = .ok (.iastore, 1)) (k : WW Γ mL (uA u (32 + 3 * q) (upI (u.2 (32 + 3 * q)) i.toNat z)) (pc + 1) L st) : WW Γ mL u pc L (.int (iI z) :: .int (iI i) :: .ref (a (32 + 3 * q)) :: st) := w_iast h (32 + 3 * q) (ws_TC hq) hi (Nat.le_of_ble_eq_true rfl) d (uA u (32 + 3 * q) (upI (u.2 (32 + 3 * q)) i.toNat z)) (by rw [upd_iA]; exact st_TC hq) rfl k

theorem ws_lb {κ a : Nat → Nat} {u : US} (y : Int) : (WS κ a u)[lb y]? = some (a (lb y), .inl (κ 0, 1728, .inl (iA (u.2 (lb y))))) := by
  unfold lb
  by_cases e : y = 0
  · rw [if_pos e]; rfl
  · rw [if_neg e]; rfl

theorem sx_lb {κ a : Nat → Nat} {u : US} (y : Int) {f : Nat → Int} : (WS κ a u).set (lb y) (a (lb y), .inl (κ 0, 1728, .inl (iA f))) = WS κ a (uA u (lb y) f) := by
  unfold lb
  by_cases e : y = 0
  · rw [if_pos e]; rfl
  · rw [if_neg e]; rfl

theorem ld_lb (h : Cx (W0 κ a) l D κ ε own cc mL ret R post Γ) {y : Int} {i z : Int} (hi : 0 ≤ i ∧ i < 1728) (hz : u.2 (lb y) i.toNat = z) (d : decode cc pc = .ok (.iaload, 1)) (k : WW Γ mL u (pc + 1) L (.int (iI z) :: st)) : WW Γ mL u pc L (.int (iI i) :: .ref (a (lb y)) :: st) := by
  subst hz
  exact w_iald h (lb y) (ws_lb y) hi (Nat.le_of_ble_eq_true rfl) rfl d k

theorem st_lb (h : Cx (W0 κ a) l D κ ε own cc mL ret R post Γ) {y : Int} {i z : Int} (hi : 0 ≤ i ∧ i < 1728) (d : decode cc pc = .ok (.iastore, 1)) (k : WW Γ mL (uA u (lb y) (upI (u.2 (lb y)) i.toNat z)) (pc + 1) L st) : WW Γ mL u pc L (.int (iI z) :: .int (iI i) :: .ref (a (lb y)) :: st) := w_iast h (lb y) (ws_lb y) hi (Nat.le_of_ble_eq_true rfl) d (uA u (lb y) (upI (u.2 (lb y)) i.toNat z)) (by rw [upd_iA]; exact sx_lb y) rfl k

theorem ws_ch {κ a : Nat → Nat} {u : US} {q : Nat} (hq : q < 12) : (WS κ a u)[18 + q]? = some (a (18 + q), .inl (κ 0, 1728, .inl (iA (u.2 (18 + q))))) := by
  rcases (by omega : q = 0 ∨ q = 1 ∨ q = 2 ∨ q = 3 ∨ q = 4 ∨ q = 5 ∨ q = 6 ∨ q = 7 ∨ q = 8 ∨ q = 9 ∨ q = 10 ∨ q = 11) with rfl | rfl | rfl | rfl | rfl | rfl | rfl | rfl | rfl | rfl | rfl | rfl <;> rfl

theorem sx_ch {κ a : Nat → Nat} {u : US} {q : Nat} {f : Nat → Int} (hq : q < 12) : (WS κ a u).set (18 + q) (a (18 + q), .inl (κ 0, 1728, .inl (iA f))) = WS κ a (uA u (18 + q) f) := by
  rcases (by omega : q = 0 ∨ q = 1 ∨ q = 2 ∨ q = 3 ∨ q = 4 ∨ q = 5 ∨ q = 6 ∨ q = 7 ∨ q = 8 ∨ q = 9 ∨ q = 10 ∨ q = 11) with rfl | rfl | rfl | rfl | rfl | rfl | rfl | rfl | rfl | rfl | rfl | rfl <;> rfl

theorem ld_ch (h : Cx (W0 κ a) l D κ ε own cc mL ret R post Γ) {q : Nat} (hq : q < 12) {i z : Int} (hi : 0 ≤ i ∧ i < 1728) (hz : u.2 (18 + q) i.toNat = z) (d : decode cc pc = .ok (.iaload, 1)) (k : WW Γ mL u (pc + 1) L (.int (iI z) :: st)) : WW Γ mL u pc L (.int (iI i) :: .ref (a (18 + q)) :: st) := by
  subst hz
  exact w_iald h (18 + q) (ws_ch hq) hi (Nat.le_of_ble_eq_true rfl) rfl d k

theorem st_ch (h : Cx (W0 κ a) l D κ ε own cc mL ret R post Γ) {q : Nat} (hq : q < 12) {i z : Int} (hi : 0 ≤ i ∧ i < 1728) (d : decode cc pc = .ok (.iastore, 1)) (k : WW Γ mL (uA u (18 + q) (upI (u.2 (18 + q)) i.toNat z)) (pc + 1) L st) : WW Γ mL u pc L (.int (iI z) :: .int (iI i) :: .ref (a (18 + q)) :: st) := w_iast h (18 + q) (ws_ch hq) hi (Nat.le_of_ble_eq_true rfl) d (uA u (18 + q) (upI (u.2 (18 + q)) i.toNat z)) (by rw [upd_iA]; exact sx_ch hq) rfl k

theorem ld_doomed (h : Cx (W0 κ a) l D κ ε own cc mL ret R post Γ) {i z : Int} (hi : 0 ≤ i ∧ i < 852) (hz : u.2 5 i.toNat = z) (d : decode cc pc = .ok (.baload, 1)) (k : WW Γ mL u (pc + 1) L (.int (iI z) :: st)) : WW Γ mL u pc L (.int (iI i) :: .ref (a 5) :: st) := by
  subst hz
  exact w_zald h 5 rfl hi (Nat.le_of_ble_eq_true rfl) rfl d k

theorem st_doomed (h : Cx (W0 κ a) l D κ ε own cc mL ret R post Γ) {i z : Int} (hi : 0 ≤ i ∧ i < 852) (h01 : z = 0 ∨ z = 1) (d : decode cc pc = .ok (.bastore, 1)) (k : WW Γ mL (uA u 5 (upI (u.2 5) i.toNat z)) (pc + 1) L st) : WW Γ mL u pc L (.int (iI z) :: .int (iI i) :: .ref (a 5) :: st) := w_zast h 5 rfl hi (Nat.le_of_ble_eq_true rfl) (by rcases h01 with rfl | rfl <;> rfl) d (uA u 5 (upI (u.2 5) i.toNat z)) (by rw [upd_iA]; rfl) rfl k

theorem ld_counted (h : Cx (W0 κ a) l D κ ε own cc mL ret R post Γ) {i : Int} (hi : 0 ≤ i ∧ i < 4) {q : Nat} (hq : q = 30 + 3 * i.toNat) (d : decode cc pc = .ok (.aaload, 1)) (k : WW Γ mL u (pc + 1) L (.ref (a q) :: st)) : WW Γ mL u pc L (.int (iI i) :: .ref (a 7) :: st) := by
  subst hq
  exact w_aald h 7 rfl hi (Nat.le_of_ble_eq_true rfl) rfl d k

theorem ld_varied (h : Cx (W0 κ a) l D κ ε own cc mL ret R post Γ) {i : Int} (hi : 0 ≤ i ∧ i < 4) {q : Nat} (hq : q = 42 + 3 * i.toNat) (d : decode cc pc = .ok (.aaload, 1)) (k : WW Γ mL u (pc + 1) L (.ref (a q) :: st)) : WW Γ mL u pc L (.int (iI i) :: .ref (a 8) :: st) := by
  subst hq
  exact w_aald h 8 rfl hi (Nat.le_of_ble_eq_true rfl) rfl d k

theorem cp_keys (h : Cx (W0 κ a) l D κ ε own cc mL ret R post Γ) {ix q : Nat} (hq : q < 8) (hlink : Cond.methodLink own ix arraycopyName ∈ Wall) {sp dp n : Int} (h1 : 0 ≤ sp ∧ sp < 1000000) (h2 : 0 ≤ dp ∧ dp < 1000000) (h3 : 0 ≤ n ∧ n < 1000000) (h4 : sp + n ≤ 852) (h5 : dp + n ≤ 852) (hfr : 1 ≤ R.frames) (hlo : (st.map fun v => v.category).sum + (nativeFrameWords "java/lang/System" "arraycopy" 5 + 11) ≤ R.locals) (d : decode cc pc = .ok (.invokestatic ix, 3)) (k : WW Γ mL (uA u (31 + 3 * q) (cpI (u.2 (31 + 3 * q)) sp.toNat dp.toNat n.toNat)) (pc + 3) L st) : WW Γ mL u pc L (.int (iI n) :: .int (iI dp) :: .ref (a (31 + 3 * q)) :: .int (iI sp) :: .ref (a (31 + 3 * q)) :: st) := w_copy h hlink wm_189 wm_190 wm_191 (31 + 3 * q) (31 + 3 * q) (ws_TK hq) (ws_TK hq) h1 h2 h3 h4 h5 hfr hlo d (uA u (31 + 3 * q) (cpI (u.2 (31 + 3 * q)) sp.toNat dp.toNat n.toNat)) (by rw [cpy_iA]; exact st_TK hq) rfl k

theorem cp_counts (h : Cx (W0 κ a) l D κ ε own cc mL ret R post Γ) {ix q : Nat} (hq : q < 8) (hlink : Cond.methodLink own ix arraycopyName ∈ Wall) {sp dp n : Int} (h1 : 0 ≤ sp ∧ sp < 1000000) (h2 : 0 ≤ dp ∧ dp < 1000000) (h3 : 0 ≤ n ∧ n < 1000000) (h4 : sp + n ≤ 852) (h5 : dp + n ≤ 852) (hfr : 1 ≤ R.frames) (hlo : (st.map fun v => v.category).sum + (nativeFrameWords "java/lang/System" "arraycopy" 5 + 11) ≤ R.locals) (d : decode cc pc = .ok (.invokestatic ix, 3)) (k : WW Γ mL (uA u (32 + 3 * q) (cpI (u.2 (32 + 3 * q)) sp.toNat dp.toNat n.toNat)) (pc + 3) L st) : WW Γ mL u pc L (.int (iI n) :: .int (iI dp) :: .ref (a (32 + 3 * q)) :: .int (iI sp) :: .ref (a (32 + 3 * q)) :: st) := w_copy h hlink wm_189 wm_190 wm_191 (32 + 3 * q) (32 + 3 * q) (ws_TC hq) (ws_TC hq) h1 h2 h3 h4 h5 hfr hlo d (uA u (32 + 3 * q) (cpI (u.2 (32 + 3 * q)) sp.toNat dp.toNat n.toNat)) (by rw [cpy_iA]; exact st_TC hq) rfl k

end WROWS
