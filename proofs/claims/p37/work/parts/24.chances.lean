/-! pure layer 8 (DRAFT, never compiled yet): the chances behind a context, as a function -/
/-- one order's refining: T the tally that is looked at, c the context -/
def rfS (T : List (Nat × Nat)) (c V : Nat) : Nat := sm (fun w => gt T (c * 14 + w + 1)) (V + 1)
def rf (way num V : Nat) (T : List (Nat × Nat)) (c : Nat) (p : Nat → Nat) (w : Nat) : Nat :=
  if way ≠ 0 ∧ rfS T c V = 0 then p w else if w ≤ V then bl 1000000 way num (V + 1) (gt T (c * 14 + w + 1)) (rfS T c V) (kd (fun w => gt T (c * 14 + w + 1)) (V + 1)) (p w) else p w
def tl (way N : Nat) (cn va : Nat → List (Nat × Nat)) (n : Nat) : List (Nat × Nat) := if way = 4 ∧ n < N then va n else cn n
/-- the orders from lo on, m of them -/
def rcF (way num V N : Nat) (cn va : Nat → List (Nat × Nat)) (ctx lo : Nat) : Nat → Nat → Nat
  | 0 => fun _ => 1000000 / (V + 1)
  | m + 1 => rf way num V (tl way N cn va (lo + m)) (ctx % 14 ^ (lo + m - 1)) (rcF way num V N cn va ctx lo m)
def chs (way num V N : Nat) (cn va : Nat → List (Nat × Nat)) (n ctx : Nat) : Nat → Nat :=
  if way = 0 then rcF way num V N cn va ctx n 1 else rcF way num V N cn va ctx 1 n
theorem rf_Ch {way num V d : Nat} {T : List (Nat × Nat)} {c : Nat} {p : Nat → Nat} (hnum : 1 ≤ num ∧ num ≤ 1000) (hd : V + 1 ≤ d) (hp : Ch 1000000 (V + 1) d p) : Ch 1000000 (V + 1) (d + (V + 1)) (rf way num V T c p) := by
  by_cases h : way ≠ 0 ∧ rfS T c V = 0
  · have e : ∀ i, i < V + 1 → rf way num V T c p i = p i := fun i _ => by unfold rf; rw [if_pos h]
    unfold Ch at hp ⊢
    rw [sm_cg e]
    exact ⟨hp.1, by omega⟩
  · refine ch_blend (way := way) (num := num) (c := fun w => gt T (c * 14 + w + 1)) (p := p) (Nat.succ_pos _) hnum ?_ hd hp fun i hi => ?_
    · by_cases w0 : way = 0
      · exact Or.inl w0
      · refine Or.inr (Nat.pos_of_ne_zero fun q => h ⟨w0, q⟩)
    · unfold rf
      rw [if_neg h, if_pos (by omega)]
      rfl
theorem rcF_Ch {way num V N : Nat} {cn va : Nat → List (Nat × Nat)} {ctx lo : Nat} (hnum : 1 ≤ num ∧ num ≤ 1000) : ∀ m : Nat, Ch 1000000 (V + 1) ((m + 1) * (V + 1)) (rcF way num V N cn va ctx lo m)
  | 0 => by rw [Nat.zero_add, Nat.one_mul]; exact ch_start (Nat.succ_pos _)
  | m + 1 => by
    rw [Nat.succ_mul]
    exact rf_Ch hnum (Nat.le_mul_of_pos_left _ (Nat.succ_pos m)) (rcF_Ch hnum m)
theorem chs_Ch {way num V N n : Nat} {cn va : Nat → List (Nat × Nat)} {ctx : Nat} (hnum : 1 ≤ num ∧ num ≤ 1000) (hn : 1 ≤ n) : Ch 1000000 (V + 1) ((n + 1) * (V + 1)) (chs way num V N cn va n ctx) := by
  unfold chs
  split
  · have h := rcF_Ch (way := way) (V := V) (N := N) (cn := cn) (va := va) (ctx := ctx) (lo := n) hnum 1
    have h1 : (1 + 1) * (V + 1) ≤ (n + 1) * (V + 1) := Nat.mul_le_mul_right _ (by omega)
    exact ⟨h.1, Nat.le_trans h.2 (by omega)⟩
  · exact rcF_Ch hnum n
/-- what the law asks of the sum -/
theorem chs_law {V N d : Nat} {p : Nat → Nat} (hp : Ch 1000000 (V + 1) ((N + 1) * (V + 1)) p) (hN : 1 ≤ N) : 1000000 ≤ sm p (V + 1) + 8 * N * (V + 2) * (V + 2) := by
  have h := hp.2
  have h1 : (N + 1) * (V + 1) ≤ 8 * N * (V + 2) * (V + 2) := by
    have a : (N + 1) * (V + 1) ≤ (8 * N) * (V + 2) := Nat.mul_le_mul (by omega) (by omega)
    exact Nat.le_trans a (Nat.le_mul_of_pos_right _ (by omega))
  omega
