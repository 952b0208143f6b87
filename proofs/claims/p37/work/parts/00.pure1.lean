/-! pure layer 1 (DRAFT, never compiled yet): sums, floors, ranks, picks; all in Nat -/
def sm (f : Nat → Nat) : Nat → Nat
  | 0 => 0
  | n + 1 => sm f n + f n
theorem sm_s (f : Nat → Nat) (n : Nat) : sm f (n + 1) = sm f n + f n := rfl
theorem sm_cg {f g : Nat → Nat} : ∀ {n : Nat}, (∀ i, i < n → f i = g i) → sm f n = sm g n
  | 0, _ => rfl
  | n + 1, h => by rw [sm_s, sm_s, sm_cg fun i hi => h i (by omega), h n (by omega)]
theorem sm_le {f g : Nat → Nat} : ∀ {n : Nat}, (∀ i, i < n → f i ≤ g i) → sm f n ≤ sm g n
  | 0, _ => Nat.le_refl _
  | n + 1, h => by
    have h1 := sm_le (f := f) (g := g) (n := n) fun i hi => h i (by omega)
    have h2 := h n (by omega)
    rw [sm_s, sm_s]
    omega
theorem sm_add (f g : Nat → Nat) : ∀ n : Nat, sm (fun i => f i + g i) n = sm f n + sm g n
  | 0 => rfl
  | n + 1 => by rw [sm_s, sm_s, sm_s, sm_add f g n]; omega
theorem sm_mul (a : Nat) (f : Nat → Nat) : ∀ n : Nat, sm (fun i => a * f i) n = a * sm f n
  | 0 => rfl
  | n + 1 => by rw [sm_s, sm_s, sm_mul a f n, Nat.mul_add]
theorem sm_const (a : Nat) : ∀ n : Nat, sm (fun _ => a) n = n * a
  | 0 => by rw [Nat.zero_mul]; rfl
  | n + 1 => by rw [sm_s, sm_const a n, Nat.succ_mul]
theorem sm_one {f : Nat → Nat} : ∀ {n : Nat}, ∀ i, i < n → f i ≤ sm f n
  | 0, i, hi => absurd hi (Nat.not_lt_zero i)
  | n + 1, i, hi => by
    rw [sm_s]
    by_cases e : i = n
    · subst e; omega
    · have h2 := sm_one (f := f) (n := n) i (by omega)
      omega
/-- the floors of parts that come to D * U, but for D * d: they come to U, but for d and one each -/
theorem floor_sum {n : Nat} {x q : Nat → Nat} {D U d : Nat} (hD : 0 < D) (hq : ∀ i, i < n → q i = x i / D) (hU : sm x n ≤ D * U) (hd : D * U ≤ sm x n + D * d) : sm q n ≤ U ∧ U ≤ sm q n + d + n := by
  have h1 : D * sm q n ≤ sm x n := by
    rw [← sm_mul]
    exact sm_le fun i hi => by rw [hq i hi]; exact Nat.mul_div_le _ _
  have h2 : sm x n ≤ D * (sm q n + n) := by
    have h3 : sm x n ≤ sm (fun i => D * (q i + 1)) n := sm_le fun i hi => by
      rw [hq i hi]
      exact Nat.le_of_lt (Nat.lt_mul_div_succ _ hD)
    rw [sm_mul, sm_add, sm_const, Nat.mul_one] at h3
    exact h3
  constructor
  · exact Nat.le_of_mul_le_mul_left (Nat.le_trans h1 hU) hD
  · refine Nat.le_of_mul_le_mul_left (c := D) ?_ hD
    have h4 : D * (sm q n + d + n) = D * (sm q n + n) + D * d := by rw [← Nat.mul_add]; congr 1; omega
    omega
/-- two sums, one in the other, either way round -/
theorem sm_swap (f : Nat → Nat → Nat) (m : Nat) : ∀ n : Nat, sm (fun i => sm (fun j => f i j) m) n = sm (fun j => sm (fun i => f i j) n) m
  | 0 => by
    show (0 : Nat) = sm (fun _ => 0) m
    rw [sm_const, Nat.mul_zero]
  | n + 1 => by
    rw [sm_s, sm_swap f m n, ← sm_add]
    rfl
/-- only one part is there -/
theorem sm_at {a k : Nat} : ∀ {n : Nat}, k < n → sm (fun j => if k = j then a else 0) n = a := by
  have z : ∀ n : Nat, n ≤ k → sm (fun j => if k = j then a else 0) n = 0 := by
    intro n
    induction n with
    | zero => intro _; rfl
    | succ n ih =>
      intro h
      rw [sm_s, ih (by omega), if_neg (by omega)]
  intro n
  induction n with
  | zero => intro h; omega
  | succ n ih =>
    intro h
    rw [sm_s]
    by_cases e : k = n
    · rw [z n (by omega), if_pos e]; omega
    · rw [ih (by omega), if_neg e]; omega
/-- parts of at most one each that come to their number are one each -/
theorem sm_full {f : Nat → Nat} : ∀ {n : Nat}, (∀ i, i < n → f i ≤ 1) → sm f n = n → ∀ i, i < n → f i = 1
  | 0, _, _, i, hi => absurd hi (Nat.not_lt_zero i)
  | n + 1, h, hs, i, hi => by
    have h1 : sm f n ≤ sm (fun _ => 1) n := sm_le fun j hj => h j (by omega)
    rw [sm_const, Nat.mul_one] at h1
    have h2 := h n (by omega)
    rw [sm_s] at hs
    by_cases e : i = n
    · subst e; omega
    · exact sm_full (f := f) (n := n) (fun j hj => h j (by omega)) (by omega) i (by omega)
-- ranks
abbrev lk (c : Nat → Nat) (a b : Nat) : Prop := c b < c a ∨ c a = c b ∧ a < b
theorem lk_irr {c : Nat → Nat} {a : Nat} : ¬ lk c a a := by unfold lk; omega
theorem lk_tr {c : Nat → Nat} {a b d : Nat} (h : lk c a b) (h' : lk c b d) : lk c a d := by unfold lk at *; omega
theorem lk_tot {c : Nat → Nat} {a b : Nat} (h : a ≠ b) : lk c a b ∨ lk c b a := by unfold lk; omega
/-- the rank of w among the first n -/
def rk (c : Nat → Nat) (n w : Nat) : Nat := sm (fun o => if lk c o w then 1 else 0) n
theorem rk_lt {c : Nat → Nat} {a b : Nat} : ∀ {n : Nat}, lk c a b → a < n → rk c n a < rk c n b := by
  intro n h ha
  have h1 : sm (fun o => (if lk c o a then 1 else 0) + (if a = o then 1 else 0)) n ≤ rk c n b := sm_le fun o _ => by
    by_cases e : a = o
    · subst e; rw [if_neg lk_irr, if_pos rfl, if_pos h]; decide
    · rw [if_neg e]
      by_cases h2 : lk c o a
      · rw [if_pos h2, if_pos (lk_tr h2 h)]; decide
      · rw [if_neg h2]; exact Nat.zero_le _
  rw [sm_add, sm_at ha] at h1
  unfold rk at *
  omega
theorem rk_in {c : Nat → Nat} {n w : Nat} (h : w < n) : rk c n w < n := by
  have h1 : sm (fun o => (if lk c o w then 1 else 0) + (if w = o then 1 else 0)) n ≤ sm (fun _ => 1) n := sm_le fun o _ => by
    by_cases e : w = o
    · subst e; rw [if_neg lk_irr, if_pos rfl]; decide
    · rw [if_neg e]; split <;> decide
  rw [sm_add, sm_at h, sm_const, Nat.mul_one] at h1
  unfold rk
  omega
theorem rk_inj {c : Nat → Nat} {n a b : Nat} (ha : a < n) (hb : b < n) (h : rk c n a = rk c n b) : a = b := by
  by_cases e : a = b
  · exact e
  · rcases lk_tot (c := c) e with h1 | h1
    · have := rk_lt h1 ha; omega
    · have := rk_lt h1 hb; omega
/-- for each rank how many have it: one -/
theorem rk_one {c : Nat → Nat} {n r : Nat} (hr : r < n) : sm (fun w => if rk c n w = r then 1 else 0) n = 1 := by
  have hle : ∀ j, j < n → sm (fun w => if rk c n w = j then 1 else 0) n ≤ 1 := by
    intro j _
    have key : ∀ k : Nat, k ≤ n → sm (fun w => if rk c n w = j then 1 else 0) k ≤ 1 ∧ ((∀ w, w < k → rk c n w ≠ j) → sm (fun w => if rk c n w = j then 1 else 0) k = 0) := by
      intro k
      induction k with
      | zero => intro _; exact ⟨Nat.zero_le _, fun _ => rfl⟩
      | succ k ih =>
        intro hk
        obtain ⟨i1, i2⟩ := ih (by omega)
        refine ⟨?_, fun h => ?_⟩
        · rw [sm_s]
          by_cases e : rk c n k = j
          · rw [i2 (fun w hw q => by have := rk_inj (c := c) (n := n) (a := w) (b := k) (by omega) (by omega) (q.trans e.symm); omega), if_pos e]; decide
          · rw [if_neg e]; omega
        · rw [sm_s, i2 (fun w hw => h w (by omega)), if_neg (h k (by omega))]
    exact (key n (Nat.le_refl n)).1
  have hs : sm (fun j => sm (fun w => if rk c n w = j then 1 else 0) n) n = n := by
    rw [← sm_swap (fun w j => if rk c n w = j then 1 else 0) n n]
    have h1 : ∀ w, w < n → sm (fun j => if rk c n w = j then 1 else 0) n = (fun _ => 1) w := fun w hw => sm_at (rk_in hw)
    rw [sm_cg h1, sm_const, Nat.mul_one]
  exact sm_full hle hs r hr
theorem rk_ex {c : Nat → Nat} {n r : Nat} (hr : r < n) : ∃ w, w < n ∧ rk c n w = r := by
  refine Classical.byContradiction fun h => ?_
  have h1 := rk_one (c := c) hr
  rw [sm_cg (g := fun _ => 0) (fun i hi => if_neg fun q => h ⟨i, hi, q⟩), sm_const, Nat.mul_zero] at h1
  omega
/-- the words by ranks have the same chances in all -/
theorem rk_sum {c : Nat → Nat} {n : Nat} {wr : Nat → Nat} (h : ∀ r, r < n → wr r < n ∧ rk c n (wr r) = r) : sm (fun r => c (wr r)) n = sm c n := by
  have h1 : ∀ r, r < n → c (wr r) = sm (fun w => if rk c n w = r then c w else 0) n := by
    intro r hr
    obtain ⟨a, b⟩ := h r hr
    rw [← sm_at (a := c (wr r)) a]
    refine sm_cg fun w hw => ?_
    by_cases e : wr r = w
    · subst e; rw [if_pos rfl, if_pos b]
    · rw [if_neg e, if_neg fun q => e (rk_inj a hw (b.trans q.symm))]
  rw [sm_cg h1, ← sm_swap (fun w r => if rk c n w = r then c w else 0) n n]
  exact sm_cg fun w hw => sm_at (rk_in hw)
/-- the ranks fall -/
theorem rk_fall {c : Nat → Nat} {n a b : Nat} (ha : a < n) (hb : b < n) (h : rk c n a < rk c n b) : c b ≤ c a := by
  by_cases e : a = b
  · subst e; omega
  · rcases lk_tot (c := c) e with h1 | h1
    · unfold lk at h1; omega
    · have := rk_lt h1 hb; omega
