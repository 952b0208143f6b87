section
/-! pure layer 1 (DRAFT, never compiled yet): sums, floors, ranks, picks; all in Nat -/
def sm (f : Nat → Nat) : Nat → Nat
  | 0 => 0
  | n + 1 => sm f n + f n
theorem sm_s (f : Nat → Nat) (n : Nat) : sm f (n + 1) = sm f n + f n := rfl
theorem sm_cg {f g : Nat → Nat} : ∀ {n : Nat}, (∀ i, i < n → f i = g i) → sm f n = sm g n
  | 0, _ => rfl
  | n + 1, h => by rw [sm_s, sm_s, sm_cg fun i hi => h i (by omega), h n (by omega)]
theorem sm_le {f g : Nat → Nat} : ∀ {n : Nat}, (∀ i, i < n → f i ≤ g i) → sm f n ≤ sm g n
  | 0, _ => Nat.le_refl _
  | n + 1, h => by
    have h1 := sm_le (f := f) (g := g) (n := n) fun i hi => h i (by omega)
    have h2 := h n (by omega)
    rw [sm_s, sm_s]
    omega
theorem sm_add (f g : Nat → Nat) : ∀ n : Nat, sm (fun i => f i + g i) n = sm f n + sm g n
  | 0 => rfl
  | n + 1 => by rw [sm_s, sm_s, sm_s, sm_add f g n]; omega
theorem sm_mul (a : Nat) (f : Nat → Nat) : ∀ n : Nat, sm (fun i => a * f i) n = a * sm f n
  | 0 => rfl
  | n + 1 => by rw [sm_s, sm_s, sm_mul a f n, Nat.mul_add]
theorem sm_const (a : Nat) : ∀ n : Nat, sm (fun _ => a) n = n * a
  | 0 => by rw [Nat.zero_mul]; rfl
  | n + 1 => by rw [sm_s, sm_const a n, Nat.succ_mul]
theorem sm_one {f : Nat → Nat} : ∀ {n : Nat}, ∀ i, i < n → f i ≤ sm f n
  | 0, i, hi => absurd hi (Nat.not_lt_zero i)
  | n + 1, i, hi => by
    rw [sm_s]
    by_cases e : i = n
    · subst e; omega
    · have h2 := sm_one (f := f) (n := n) i (by omega)
      omega
/-- the floors of parts that come to D * U, but for D * d: they come to U, but for d and one each -/
theorem floor_sum {n : Nat} {x q : Nat → Nat} {D U d : Nat} (hD : 0 < D) (hq : ∀ i, i < n → q i = x i / D) (hU : sm x n ≤ D * U) (hd : D * U ≤ sm x n + D * d) : sm q n ≤ U ∧ U ≤ sm q n + d + n := by
  have h1 : D * sm q n ≤ sm x n := by
    rw [← sm_mul]
    exact sm_le fun i hi => by rw [hq i hi]; exact Nat.mul_div_le _ _
  have h2 : sm x n ≤ D * (sm q n + n) := by
    have h3 : sm x n ≤ sm (fun i => D * (q i + 1)) n := sm_le fun i hi => by
      rw [hq i hi]
      exact Nat.le_of_lt (Nat.lt_mul_div_succ _ hD)
    rw [sm_mul, sm_add, sm_const, Nat.mul_one] at h3
    exact h3
  constructor
  · exact Nat.le_of_mul_le_mul_left (Nat.le_trans h1 hU) hD
  · refine Nat.le_of_mul_le_mul_left (c := D) ?_ hD
    have h4 : D * (sm q n + d + n) = D * (sm q n + n) + D * d := by rw [← Nat.mul_add]; congr 1; omega
    omega
/-- two sums, one in the other, either way round -/
theorem sm_swap (f : Nat → Nat → Nat) (m : Nat) : ∀ n : Nat, sm (fun i => sm (fun j => f i j) m) n = sm (fun j => sm (fun i => f i j) n) m
  | 0 => by
    show (0 : Nat) = sm (fun _ => 0) m
    rw [sm_const, Nat.mul_zero]
  | n + 1 => by
    rw [sm_s, sm_swap f m n, ← sm_add]
    rfl
/-- only one part is there -/
theorem sm_at {a k : Nat} : ∀ {n : Nat}, k < n → sm (fun j => if k = j then a else 0) n = a := by
  have z : ∀ n : Nat, n ≤ k → sm (fun j => if k = j then a else 0) n = 0 := by
    intro n
    induction n with
    | zero => intro _; rfl
    | succ n ih =>
      intro h
      rw [sm_s, ih (by omega), if_neg (by omega)]
  intro n
  induction n with
  | zero => intro h; omega
  | succ n ih =>
    intro h
    rw [sm_s]
    by_cases e : k = n
    · rw [z n (by omega), if_pos e]; omega
    · rw [ih (by omega), if_neg e]; omega
/-- parts of at most one each that come to their number are one each -/
theorem sm_full {f : Nat → Nat} : ∀ {n : Nat}, (∀ i, i < n → f i ≤ 1) → sm f n = n → ∀ i, i < n → f i = 1
  | 0, _, _, i, hi => absurd hi (Nat.not_lt_zero i)
  | n + 1, h, hs, i, hi => by
    have h1 : sm f n ≤ sm (fun _ => 1) n := sm_le fun j hj => h j (by omega)
    rw [sm_const, Nat.mul_one] at h1
    have h2 := h n (by omega)
    rw [sm_s] at hs
    by_cases e : i = n
    · subst e; omega
    · exact sm_full (f := f) (n := n) (fun j hj => h j (by omega)) (by omega) i (by omega)
-- ranks
abbrev lk (c : Nat → Nat) (a b : Nat) : Prop := c b < c a ∨ c a = c b ∧ a < b
theorem lk_irr {c : Nat → Nat} {a : Nat} : ¬ lk c a a := by unfold lk; omega
theorem lk_tr {c : Nat → Nat} {a b d : Nat} (h : lk c a b) (h' : lk c b d) : lk c a d := by unfold lk at *; omega
theorem lk_tot {c : Nat → Nat} {a b : Nat} (h : a ≠ b) : lk c a b ∨ lk c b a := by unfold lk; omega
/-- the rank of w among the first n -/
def rk (c : Nat → Nat) (n w : Nat) : Nat := sm (fun o => if lk c o w then 1 else 0) n
theorem rk_lt {c : Nat → Nat} {a b : Nat} : ∀ {n : Nat}, lk c a b → a < n → rk c n a < rk c n b := by
  intro n h ha
  have h1 : sm (fun o => (if lk c o a then 1 else 0) + (if a = o then 1 else 0)) n ≤ rk c n b := sm_le fun o _ => by
    by_cases e : a = o
    · subst e; rw [if_neg lk_irr, if_pos rfl, if_pos h]; decide
    · rw [if_neg e]
      by_cases h2 : lk c o a
      · rw [if_pos h2, if_pos (lk_tr h2 h)]; decide
      · rw [if_neg h2]; exact Nat.zero_le _
  rw [sm_add, sm_at ha] at h1
  unfold rk at *
  omega
theorem rk_in {c : Nat → Nat} {n w : Nat} (h : w < n) : rk c n w < n := by
  have h1 : sm (fun o => (if lk c o w then 1 else 0) + (if w = o then 1 else 0)) n ≤ sm (fun _ => 1) n := sm_le fun o _ => by
    by_cases e : w = o
    · subst e; rw [if_neg lk_irr, if_pos rfl]; decide
    · rw [if_neg e]; split <;> decide
  rw [sm_add, sm_at h, sm_const, Nat.mul_one] at h1
  unfold rk
  omega
theorem rk_inj {c : Nat → Nat} {n a b : Nat} (ha : a < n) (hb : b < n) (h : rk c n a = rk c n b) : a = b := by
  by_cases e : a = b
  · exact e
  · rcases lk_tot (c := c) e with h1 | h1
    · have := rk_lt h1 ha; omega
    · have := rk_lt h1 hb; omega
/-- for each rank how many have it: one -/
theorem rk_one {c : Nat → Nat} {n r : Nat} (hr : r < n) : sm (fun w => if rk c n w = r then 1 else 0) n = 1 := by
  have hle : ∀ j, j < n → sm (fun w => if rk c n w = j then 1 else 0) n ≤ 1 := by
    intro j _
    have key : ∀ k : Nat, k ≤ n → sm (fun w => if rk c n w = j then 1 else 0) k ≤ 1 ∧ ((∀ w, w < k → rk c n w ≠ j) → sm (fun w => if rk c n w = j then 1 else 0) k = 0) := by
      intro k
      induction k with
      | zero => intro _; exact ⟨Nat.zero_le _, fun _ => rfl⟩
      | succ k ih =>
        intro hk
        obtain ⟨i1, i2⟩ := ih (by omega)
        refine ⟨?_, fun h => ?_⟩
        · rw [sm_s]
          by_cases e : rk c n k = j
          · rw [i2 (fun w hw q => by have := rk_inj (c := c) (n := n) (a := w) (b := k) (by omega) (by omega) (q.trans e.symm); omega), if_pos e]; decide
          · rw [if_neg e]; omega
        · rw [sm_s, i2 (fun w hw => h w (by omega)), if_neg (h k (by omega))]
    exact (key n (Nat.le_refl n)).1
  have hs : sm (fun j => sm (fun w => if rk c n w = j then 1 else 0) n) n = n := by
    rw [← sm_swap (fun w j => if rk c n w = j then 1 else 0) n n]
    have h1 : ∀ w, w < n → sm (fun j => if rk c n w = j then 1 else 0) n = (fun _ => 1) w := fun w hw => sm_at (rk_in hw)
    rw [sm_cg h1, sm_const, Nat.mul_one]
  exact sm_full hle hs r hr
theorem rk_ex {c : Nat → Nat} {n r : Nat} (hr : r < n) : ∃ w, w < n ∧ rk c n w = r := by
  refine Classical.byContradiction fun h => ?_
  have h1 := rk_one (c := c) hr
  rw [sm_cg (g := fun _ => 0) (fun i hi => if_neg fun q => h ⟨i, hi, q⟩), sm_const, Nat.mul_zero] at h1
  omega
/-- the words by ranks have the same chances in all -/
theorem rk_sum {c : Nat → Nat} {n : Nat} {wr : Nat → Nat} (h : ∀ r, r < n → wr r < n ∧ rk c n (wr r) = r) : sm (fun r => c (wr r)) n = sm c n := by
  have h1 : ∀ r, r < n → c (wr r) = sm (fun w => if rk c n w = r then c w else 0) n := by
    intro r hr
    obtain ⟨a, b⟩ := h r hr
    rw [← sm_at (a := c (wr r)) a]
    refine sm_cg fun w hw => ?_
    by_cases e : wr r = w
    · subst e; rw [if_pos rfl, if_pos b]
    · rw [if_neg e, if_neg fun q => e (rk_inj a hw (b.trans q.symm))]
  rw [sm_cg h1, ← sm_swap (fun w r => if rk c n w = r then c w else 0) n n]
  exact sm_cg fun w hw => sm_at (rk_in hw)
/-- the ranks fall -/
theorem rk_fall {c : Nat → Nat} {n a b : Nat} (ha : a < n) (hb : b < n) (h : rk c n a < rk c n b) : c b ≤ c a := by
  by_cases e : a = b
  · subst e; omega
  · rcases lk_tot (c := c) e with h1 | h1
    · unfold lk at h1; omega
    · have := rk_lt h1 hb; omega
end
section
/-! pure layer 2 (DRAFT, never compiled yet): one refining of the chances, by each way; picks; costs; all in Nat -/
def bl (U way num n c S K p : Nat) : Nat :=
  if way = 0 then (c * 1000 + num) * U / (S * 1000 + num * n)
  else if way = 1 then (num * (c * U / S) + (1000 - num) * p) / 1000
  else if way = 2 then (c * U + K * p) / (S + K)
  else ((c * 1000 - num) * U + num * K * p) / (S * 1000)
/-- how many are above nothing -/
def kd (c : Nat → Nat) (n : Nat) : Nat := sm (fun i => if 0 < c i then 1 else 0) n
theorem kd_le {c : Nat → Nat} {n : Nat} : kd c n ≤ sm c n := sm_le fun i hi => by split <;> omega
/-- chances: all of them are the unit but for d -/
def Ch (U n d : Nat) (p : Nat → Nat) : Prop := sm p n ≤ U ∧ U ≤ sm p n + d
theorem Ch.each {U n d : Nat} {p : Nat → Nat} (h : Ch U n d p) : ∀ i, i < n → p i ≤ U := fun i hi => Nat.le_trans (sm_one i hi) h.1
theorem ch_start {U n : Nat} (hn : 0 < n) : Ch U n n (fun _ => U / n) := by
  have h := floor_sum (n := n) (x := fun _ => U) (q := fun _ => U / n) (D := n) (U := U) (d := 0) hn (fun _ _ => rfl) (by rw [sm_const]; exact Nat.le_refl _) (by rw [sm_const]; exact Nat.le_refl _)
  exact ⟨h.1, by omega⟩
theorem ch_blend {U n way num d : Nat} {c p q : Nat → Nat} (hn : 0 < n) (hnum : 1 ≤ num ∧ num ≤ 1000) (hS : way = 0 ∨ 0 < sm c n) (hd : n ≤ d) (hp : Ch U n d p) (hq : ∀ i, i < n → q i = bl U way num n (c i) (sm c n) (kd c n) (p i)) : Ch U n (d + n) q := by
  obtain ⟨p2, p3⟩ := hp
  have k1 : kd c n ≤ sm c n := kd_le
  have fin : ∀ (D : Nat) (x : Nat → Nat), 0 < D → (∀ i, i < n → q i = x i / D) → sm x n ≤ D * U → D * U ≤ sm x n + D * d → Ch U n (d + n) q := by
    intro D x hD hqx h1 h2
    obtain ⟨a, b⟩ := floor_sum hD hqx h1 h2
    exact ⟨a, by omega⟩
  by_cases w0 : way = 0
  · have hD : 0 < sm c n * 1000 + num * n := by
      have : 0 < num * n := Nat.mul_pos (by omega) hn
      omega
    have hx : sm (fun i => (c i * 1000 + num) * U) n = (sm c n * 1000 + num * n) * U := by
      rw [sm_cg (g := fun i => U * (1000 * c i + num)) (fun i _ => by rw [Nat.mul_comm, Nat.mul_comm (c i)]), sm_mul, sm_add, sm_mul, sm_const]
      rw [Nat.mul_comm U, Nat.mul_comm 1000, Nat.mul_comm n]
    refine fin _ (fun i => (c i * 1000 + num) * U) hD (fun i hi => by rw [hq i hi]; unfold bl; rw [if_pos w0]) (by rw [hx]; exact Nat.le_refl _) ?_
    rw [hx]; exact Nat.le_add_right _ _
  · have hS0 : 0 < sm c n := hS.resolve_left w0
    by_cases w1 : way = 1
    · obtain ⟨a1, a2⟩ := floor_sum (n := n) (x := fun i => c i * U) (q := fun i => c i * U / sm c n) (D := sm c n) (U := U) (d := 0) hS0 (fun _ _ => rfl)
        (by rw [sm_cg (g := fun i => U * c i) (fun i _ => Nat.mul_comm _ _), sm_mul, Nat.mul_comm]; exact Nat.le_refl _)
        (by rw [sm_cg (g := fun i => U * c i) (fun i _ => Nat.mul_comm _ _), sm_mul, Nat.mul_comm]; exact Nat.le_refl _)
      have hx : sm (fun i => num * (c i * U / sm c n) + (1000 - num) * p i) n = num * sm (fun i => c i * U / sm c n) n + (1000 - num) * sm p n := by rw [sm_add, sm_mul, sm_mul]
      have e1 : num * U + (1000 - num) * U = 1000 * U := by rw [← Nat.add_mul]; congr 1; omega
      refine fin 1000 (fun i => num * (c i * U / sm c n) + (1000 - num) * p i) (by decide) (fun i hi => by rw [hq i hi]; unfold bl; rw [if_neg w0, if_pos w1]) ?_ ?_
      · rw [hx]
        have h1 := Nat.mul_le_mul_left num a1
        have h2 := Nat.mul_le_mul_left (1000 - num) p2
        omega
      · rw [hx]
        have h1 := Nat.mul_le_mul_left num (show U ≤ sm (fun i => c i * U / sm c n) n + d by omega)
        have h2 := Nat.mul_le_mul_left (1000 - num) p3
        rw [Nat.mul_add] at h1 h2
        have e2 : num * d + (1000 - num) * d = 1000 * d := by rw [← Nat.add_mul]; congr 1; omega
        omega
    · by_cases w2 : way = 2
      · have hx : sm (fun i => c i * U + kd c n * p i) n = U * sm c n + kd c n * sm p n := by
          rw [sm_cg (g := fun i => U * c i + kd c n * p i) (fun i _ => by rw [Nat.mul_comm (c i)]), sm_add, sm_mul, sm_mul]
        refine fin (sm c n + kd c n) (fun i => c i * U + kd c n * p i) (by omega) (fun i hi => by rw [hq i hi]; unfold bl; rw [if_neg w0, if_neg w1, if_pos w2]) ?_ ?_
        · rw [hx, Nat.add_mul, Nat.mul_comm (sm c n)]
          have h1 := Nat.mul_le_mul_left (kd c n) p2
          omega
        · rw [hx, Nat.add_mul, Nat.add_mul, Nat.mul_comm (sm c n) U]
          have h1 := Nat.mul_le_mul_left (kd c n) p3
          rw [Nat.mul_add] at h1
          omega
      · have m1 : num * kd c n ≤ 1000 * sm c n := Nat.mul_le_mul hnum.2 k1
        have hl : sm (fun i => c i * 1000 - num) n + num * kd c n = 1000 * sm c n := by
          unfold kd
          rw [← sm_mul, ← sm_mul, ← sm_add]
          refine sm_cg fun i _ => ?_
          by_cases e : 0 < c i
          · rw [if_pos e]; omega
          · rw [if_neg e]; omega
        have hU : U * sm (fun i => c i * 1000 - num) n + num * kd c n * U = sm c n * 1000 * U := by rw [Nat.mul_comm (num * kd c n) U, ← Nat.mul_add, hl, Nat.mul_comm 1000, Nat.mul_comm U]
        have hx : sm (fun i => (c i * 1000 - num) * U + num * kd c n * p i) n = U * sm (fun i => c i * 1000 - num) n + num * kd c n * sm p n := by
          rw [sm_cg (g := fun i => U * (c i * 1000 - num) + num * kd c n * p i) (fun i _ => by rw [Nat.mul_comm (c i * 1000 - num)]), sm_add, sm_mul, sm_mul]
        refine fin (sm c n * 1000) (fun i => (c i * 1000 - num) * U + num * kd c n * p i) (by omega) (fun i hi => by rw [hq i hi]; unfold bl; rw [if_neg w0, if_neg w1, if_neg w2]) ?_ ?_
        · rw [hx]
          have h1 := Nat.mul_le_mul_left (num * kd c n) p2
          omega
        · rw [hx]
          have h1 := Nat.mul_le_mul_left (num * kd c n) p3
          rw [Nat.mul_add] at h1
          have h2 := Nat.mul_le_mul_right d m1
          rw [Nat.mul_comm 1000] at h2
          omega
-- a pick: with g i = (if u i then p i else 0); word r is taken where sm g r <= drawn < sm g (r + 1)
theorem pk_pos {u : Nat → Bool} {p : Nat → Nat} {drawn r : Nat} (h1 : sm (fun i => if u i then p i else 0) r ≤ drawn) (h2 : drawn < sm (fun i => if u i then p i else 0) (r + 1)) : u r = true ∧ 0 < p r := by
  rw [sm_s] at h2
  by_cases e : u r = true
  · rw [if_pos e] at h2; exact ⟨e, by omega⟩
  · rw [if_neg e] at h2; omega
/-- what is drawn lies below the sum, if that is above nothing -/
theorem drawn_lt {luck all : Nat} (hl : luck < 10000) (ha : 0 < all) : luck * all / 10000 < all := by
  have h1 : luck * all ≤ 9999 * all := Nat.mul_le_mul_right _ (by omega)
  omega
end
section
/-! pure layer 3: a tally as a list of keys and counts, strictly by the keys -/
def So : List (Nat × Nat) → Prop
  | [] => True
  | a :: l => (∀ b ∈ l, a.1 < b.1) ∧ So l
/-- how many keys stand below k -/
def bw : List (Nat × Nat) → Nat → Nat
  | [], _ => 0
  | a :: l, k => if a.1 < k then bw l k + 1 else 0
/-- the count of k -/
def gt : List (Nat × Nat) → Nat → Nat
  | [], _ => 0
  | a :: l, k => if a.1 = k then a.2 else gt l k
/-- k with count c, put in its place -/
def ins : List (Nat × Nat) → Nat → Nat → List (Nat × Nat)
  | [], k, c => [(k, c)]
  | a :: l, k, c => if a.1 < k then a :: ins l k c else (k, c) :: a :: l
/-- k's count is now c -/
def cst : List (Nat × Nat) → Nat → Nat → List (Nat × Nat)
  | [], _, _ => []
  | a :: l, k, c => if a.1 = k then (k, c) :: l else a :: cst l k c
/-- k is gone -/
def del : List (Nat × Nat) → Nat → List (Nat × Nat)
  | [], _ => []
  | a :: l, k => if a.1 = k then l else a :: del l k
theorem bw_le : ∀ (l : List (Nat × Nat)) (k : Nat), bw l k ≤ l.length
  | [], _ => Nat.le_refl _
  | a :: l, k => by
    unfold bw
    split
    · have := bw_le l k; simp only [List.length_cons]; omega
    · exact Nat.zero_le _
theorem gt_out : ∀ {l : List (Nat × Nat)} {k : Nat}, (∀ b ∈ l, b.1 ≠ k) → gt l k = 0
  | [], _, _ => rfl
  | a :: l, k, h => by
    unfold gt
    rw [if_neg (h a List.mem_cons_self)]
    exact gt_out fun b hb => h b (List.mem_cons_of_mem _ hb)
theorem gt_in : ∀ {l : List (Nat × Nat)}, So l → ∀ {b : Nat × Nat}, b ∈ l → gt l b.1 = b.2
  | [], _, b, hb => absurd hb List.not_mem_nil
  | a :: l, h, b, hb => by
    unfold gt
    rcases List.mem_cons.mp hb with e | e
    · subst e; rw [if_pos rfl]
    · rw [if_neg (fun q => by have := h.1 b e; omega)]
      exact gt_in h.2 e
/-- where two tallies with counts above nothing count alike, they are the same -/
theorem So.ext : ∀ {l l' : List (Nat × Nat)}, So l → So l' → (∀ b ∈ l, 0 < b.2) → (∀ b ∈ l', 0 < b.2) → (∀ k, gt l k = gt l' k) → l = l'
  | [], [], _, _, _, _, _ => rfl
  | [], b :: l', _, h', _, p', e => by
    have h1 := gt_in h' (b := b) List.mem_cons_self
    have h2 := p' b List.mem_cons_self
    rw [← e] at h1
    exact absurd h1 (by show ¬ 0 = b.2; omega)
  | a :: l, [], h, _, p, _, e => by
    have h1 := gt_in h (b := a) List.mem_cons_self
    have h2 := p a List.mem_cons_self
    rw [e] at h1
    exact absurd h1 (by show ¬ 0 = a.2; omega)
  | a :: l, b :: l', h, h', p, p', e => by
    have a1 := gt_in h (b := a) List.mem_cons_self
    have b1 := gt_in h' (b := b) List.mem_cons_self
    have a2 := p a List.mem_cons_self
    have b2 := p' b List.mem_cons_self
    have hk : a.1 = b.1 := by
      rcases Nat.lt_trichotomy a.1 b.1 with q | q | q
      · have h1 : gt (b :: l') a.1 = 0 := gt_out fun z hz => by
          rcases List.mem_cons.mp hz with r | r
          · subst r; omega
          · have := h'.1 z r; omega
        rw [e, h1] at a1; omega
      · exact q
      · have h1 : gt (a :: l) b.1 = 0 := gt_out fun z hz => by
          rcases List.mem_cons.mp hz with r | r
          · subst r; omega
          · have := h.1 z r; omega
        rw [← e, h1] at b1; omega
    have hc : a.2 = b.2 := by rw [← a1, ← b1, e, hk]
    have hab : a = b := Prod.ext hk hc
    subst hab
    congr 1
    refine So.ext h.2 h'.2 (fun z hz => p z (List.mem_cons_of_mem _ hz)) (fun z hz => p' z (List.mem_cons_of_mem _ hz)) fun k => ?_
    have := e k
    unfold gt at this
    by_cases q : a.1 = k
    · subst q
      rw [gt_out fun z hz => by have := h.1 z hz; omega, gt_out fun z hz => by have := h'.1 z hz; omega]
    · rw [if_neg q, if_neg q] at this; exact this
theorem bw_lt : ∀ {l : List (Nat × Nat)} {k i : Nat} (hi : i < l.length), i < bw l k → (l[i]).1 < k
  | [], _, _, hi, _ => absurd hi (Nat.not_lt_zero _)
  | a :: l, k, i, hi, h => by
    unfold bw at h
    split at h
    · rename_i q
      cases i with
      | zero => exact q
      | succ i => exact bw_lt (l := l) (Nat.lt_of_succ_lt_succ hi) (by omega)
    · omega
theorem bw_ge : ∀ {l : List (Nat × Nat)} {k i : Nat}, So l → (hi : i < l.length) → bw l k ≤ i → k ≤ (l[i]).1
  | [], _, _, _, hi, _ => absurd hi (Nat.not_lt_zero _)
  | a :: l, k, i, h, hi, hb => by
    unfold bw at hb
    split at hb
    · cases i with
      | zero => omega
      | succ i => exact bw_ge (l := l) h.2 (Nat.lt_of_succ_lt_succ hi) (by omega)
    · rename_i q
      cases i with
      | zero => show k ≤ a.1; omega
      | succ i =>
        have h1 := h.1 (l[i]'(Nat.lt_of_succ_lt_succ hi)) (List.getElem_mem _)
        show k ≤ (l[i]'(Nat.lt_of_succ_lt_succ hi)).1
        omega
/-- the place is told by what stands ahead of it and there -/
theorem bw_eq {l : List (Nat × Nat)} {k n : Nat} (hs : So l) (hn : n ≤ l.length) (h1 : ∀ i (hi : i < l.length), i < n → (l[i]).1 < k) (h2 : ∀ hi : n < l.length, k ≤ (l[n]).1) : n = bw l k := by
  have hb := bw_le l k
  rcases Nat.lt_trichotomy n (bw l k) with q | q | q
  · have a := h2 (by omega)
    have b := bw_lt (l := l) (k := k) (i := n) (by omega) q
    omega
  · exact q
  · have a := h1 (bw l k) (by omega) q
    have b := bw_ge (l := l) (k := k) (i := bw l k) hs (by omega) (Nat.le_refl _)
    omega
end
section
/-! pure layer 4: what putting in, counting anew and taking out do to a tally -/
theorem ins_at : ∀ (l : List (Nat × Nat)) (k c j : Nat), (ins l k c)[j]? = if j < bw l k then l[j]? else if j = bw l k then some (k, c) else l[j - 1]?
  | [], k, c, j => by
    unfold ins bw
    rw [if_neg (Nat.not_lt_zero j)]
    by_cases e : j = 0
    · subst e; rfl
    · rw [if_neg e, List.getElem?_eq_none (by simp only [List.length_cons, List.length_nil]; omega)]
      rfl
  | a :: l, k, c, j => by
    unfold ins bw
    by_cases q : a.1 < k
    · rw [if_pos q, if_pos q]
      cases j with
      | zero => rw [if_pos (Nat.succ_pos _)]; rfl
      | succ j =>
        rw [List.getElem?_cons_succ, ins_at l k c j]
        by_cases r : j < bw l k
        · rw [if_pos r, if_pos (by omega), List.getElem?_cons_succ]
        · rw [if_neg r, if_neg (show ¬ j + 1 < bw l k + 1 by omega)]
          by_cases r2 : j = bw l k
          · rw [if_pos r2, if_pos (show j + 1 = bw l k + 1 by omega)]
          · rw [if_neg r2, if_neg (show ¬ j + 1 = bw l k + 1 by omega)]
            cases j with
            | zero => omega
            | succ j => rfl
    · rw [if_neg q, if_neg q, if_neg (Nat.not_lt_zero j)]
      cases j with
      | zero => rfl
      | succ j => rfl
theorem ins_len : ∀ (l : List (Nat × Nat)) (k c : Nat), (ins l k c).length = l.length + 1
  | [], _, _ => rfl
  | a :: l, k, c => by
    unfold ins
    split
    · rw [List.length_cons, ins_len l k c]; rfl
    · rfl
theorem ins_mem : ∀ {l : List (Nat × Nat)} {k c : Nat} {b : Nat × Nat}, b ∈ ins l k c → b = (k, c) ∨ b ∈ l
  | [], _, _, b, h => Or.inl (List.mem_singleton.mp h)
  | a :: l, k, c, b, h => by
    unfold ins at h
    split at h
    · rcases List.mem_cons.mp h with e | e
      · exact Or.inr (e ▸ List.mem_cons_self)
      · rcases ins_mem e with r | r
        · exact Or.inl r
        · exact Or.inr (List.mem_cons_of_mem _ r)
    · exact List.mem_cons.mp h
theorem ins_So : ∀ {l : List (Nat × Nat)} {k c : Nat}, So l → (∀ b ∈ l, b.1 ≠ k) → So (ins l k c)
  | [], _, _, _, _ => ⟨fun _ h => absurd h List.not_mem_nil, trivial⟩
  | a :: l, k, c, h, n => by
    have na := n a List.mem_cons_self
    unfold ins
    split
    · rename_i q
      refine ⟨fun b hb => ?_, ins_So h.2 fun b hb => n b (List.mem_cons_of_mem _ hb)⟩
      rcases ins_mem hb with r | r
      · rw [r]; exact q
      · exact h.1 b r
    · rename_i q
      refine ⟨fun b hb => ?_, h⟩
      rcases List.mem_cons.mp hb with r | r
      · rw [r]; show k < a.1; omega
      · have := h.1 b r; show k < b.1; omega
theorem ins_gt : ∀ {l : List (Nat × Nat)} {k c : Nat}, (∀ b ∈ l, b.1 ≠ k) → ∀ z, gt (ins l k c) z = if k = z then c else gt l z
  | [], k, c, _, z => rfl
  | a :: l, k, c, n, z => by
    have na := n a List.mem_cons_self
    unfold ins
    split
    · unfold gt
      rw [ins_gt (fun b hb => n b (List.mem_cons_of_mem _ hb)) z]
      by_cases e : a.1 = z
      · rw [if_pos e, if_pos e, if_neg (by omega)]
      · rw [if_neg e, if_neg e]
    · rfl
theorem cst_at : ∀ {l : List (Nat × Nat)} {k c d : Nat}, So l → l[bw l k]? = some (k, d) → ∀ j, (cst l k c)[j]? = if j = bw l k then some (k, c) else l[j]?
  | [], k, c, d, _, h, j => by cases h
  | a :: l, k, c, d, hs, h, j => by
    unfold bw at h
    unfold cst bw
    by_cases q : a.1 < k
    · rw [if_pos q] at h
      rw [if_pos q, if_neg (by omega)]
      cases j with
      | zero => rw [if_neg (by omega)]; rfl
      | succ j =>
        rw [List.getElem?_cons_succ, List.getElem?_cons_succ, cst_at (c := c) hs.2 h j]
        by_cases r : j = bw l k
        · rw [if_pos r, if_pos (by omega)]
        · rw [if_neg r, if_neg (by omega)]
    · rw [if_neg q] at h
      have e : a = (k, d) := Option.some.inj h
      rw [if_neg q, if_pos (by rw [e])]
      cases j with
      | zero => rfl
      | succ j => rfl
theorem cst_len : ∀ (l : List (Nat × Nat)) (k c : Nat), (cst l k c).length = l.length
  | [], _, _ => rfl
  | a :: l, k, c => by
    unfold cst
    split
    · rfl
    · rw [List.length_cons, cst_len l k c]; rfl
theorem cst_mem : ∀ {l : List (Nat × Nat)} {k c : Nat} {b : Nat × Nat}, b ∈ cst l k c → b = (k, c) ∨ b ∈ l
  | [], _, _, b, h => absurd h List.not_mem_nil
  | a :: l, k, c, b, h => by
    unfold cst at h
    split at h
    · rcases List.mem_cons.mp h with e | e
      · exact Or.inl e
      · exact Or.inr (List.mem_cons_of_mem _ e)
    · rcases List.mem_cons.mp h with e | e
      · exact Or.inr (e ▸ List.mem_cons_self)
      · rcases cst_mem e with r | r
        · exact Or.inl r
        · exact Or.inr (List.mem_cons_of_mem _ r)
theorem cst_key : ∀ {l : List (Nat × Nat)} {k c : Nat} {b : Nat × Nat}, b ∈ cst l k c → ∃ b' ∈ l, b'.1 = b.1
  | [], _, _, b, h => absurd h List.not_mem_nil
  | a :: l, k, c, b, h => by
    unfold cst at h
    split at h
    · rename_i q
      rcases List.mem_cons.mp h with e | e
      · exact ⟨a, List.mem_cons_self, by rw [e]; exact q⟩
      · exact ⟨b, List.mem_cons_of_mem _ e, rfl⟩
    · rcases List.mem_cons.mp h with e | e
      · exact ⟨a, List.mem_cons_self, by rw [e]⟩
      · obtain ⟨b', h1, h2⟩ := cst_key e
        exact ⟨b', List.mem_cons_of_mem _ h1, h2⟩
theorem cst_So : ∀ {l : List (Nat × Nat)} {k c : Nat}, So l → So (cst l k c)
  | [], _, _, _ => trivial
  | a :: l, k, c, h => by
    unfold cst
    split
    · rename_i q
      exact ⟨fun b hb => by have := h.1 b hb; show k < b.1; omega, h.2⟩
    · refine ⟨fun b hb => ?_, cst_So h.2⟩
      obtain ⟨b', h1, h2⟩ := cst_key hb
      have := h.1 b' h1
      omega
theorem cst_gt : ∀ {l : List (Nat × Nat)} {k c : Nat}, (∃ b ∈ l, b.1 = k) → ∀ z, gt (cst l k c) z = if k = z then c else gt l z
  | [], k, c, h, z => by obtain ⟨b, hb, _⟩ := h; cases hb
  | a :: l, k, c, h, z => by
    unfold cst
    by_cases q : a.1 = k
    · rw [if_pos q]
      unfold gt
      by_cases e : k = z
      · rw [if_pos e, if_pos e]
      · rw [if_neg e, if_neg e, if_neg (by omega)]
    · rw [if_neg q]
      unfold gt
      have h' : ∃ b ∈ l, b.1 = k := by
        obtain ⟨b, hb, e⟩ := h
        rcases List.mem_cons.mp hb with r | r
        · rw [r] at e; exact absurd e q
        · exact ⟨b, r, e⟩
      rw [cst_gt h' z]
      by_cases e : a.1 = z
      · rw [if_pos e, if_pos e, if_neg (by omega)]
      · rw [if_neg e, if_neg e]
theorem del_at : ∀ {l : List (Nat × Nat)} {k d : Nat}, So l → l[bw l k]? = some (k, d) → ∀ j, (del l k)[j]? = if j < bw l k then l[j]? else l[j + 1]?
  | [], k, d, _, h, j => by cases h
  | a :: l, k, d, hs, h, j => by
    unfold bw at h
    unfold del bw
    by_cases q : a.1 < k
    · rw [if_pos q] at h
      rw [if_pos q, if_neg (by omega)]
      cases j with
      | zero => rw [if_pos (by omega)]; rfl
      | succ j =>
        rw [List.getElem?_cons_succ, del_at hs.2 h j]
        by_cases r : j < bw l k
        · rw [if_pos r, if_pos (by omega), List.getElem?_cons_succ]
        · rw [if_neg r, if_neg (by omega), List.getElem?_cons_succ]
    · rw [if_neg q] at h
      have e : a = (k, d) := Option.some.inj h
      rw [if_neg q, if_pos (by rw [e]), if_neg (Nat.not_lt_zero j), List.getElem?_cons_succ]
theorem del_mem : ∀ {l : List (Nat × Nat)} {k : Nat} {b : Nat × Nat}, b ∈ del l k → b ∈ l
  | [], _, _, h => absurd h List.not_mem_nil
  | a :: l, k, b, h => by
    unfold del at h
    split at h
    · exact List.mem_cons_of_mem _ h
    · rcases List.mem_cons.mp h with e | e
      · exact e ▸ List.mem_cons_self
      · exact List.mem_cons_of_mem _ (del_mem e)
theorem del_So : ∀ {l : List (Nat × Nat)} {k : Nat}, So l → So (del l k)
  | [], _, _ => trivial
  | a :: l, k, h => by
    unfold del
    split
    · exact h.2
    · exact ⟨fun b hb => h.1 b (del_mem hb), del_So h.2⟩
theorem del_len : ∀ {l : List (Nat × Nat)} {k : Nat}, (∃ b ∈ l, b.1 = k) → (del l k).length + 1 = l.length
  | [], _, h => by obtain ⟨b, hb, _⟩ := h; cases hb
  | a :: l, k, h => by
    unfold del
    by_cases q : a.1 = k
    · rw [if_pos q]; rfl
    · rw [if_neg q, List.length_cons, List.length_cons]
      obtain ⟨b, hb, e⟩ := h
      rcases List.mem_cons.mp hb with r | r
      · rw [r] at e; exact absurd e q
      · rw [del_len ⟨b, r, e⟩]
theorem del_gt : ∀ {l : List (Nat × Nat)} {k : Nat}, So l → ∀ z, gt (del l k) z = if k = z then 0 else gt l z
  | [], k, _, z => by unfold del gt; split <;> rfl
  | a :: l, k, h, z => by
    unfold del
    by_cases q : a.1 = k
    · rw [if_pos q]
      by_cases e : k = z
      · rw [if_pos e]
        exact gt_out fun b hb => by have := h.1 b hb; omega
      · rw [if_neg e]
        show gt l z = if a.1 = z then a.2 else gt l z
        rw [if_neg (by omega)]
    · rw [if_neg q]
      unfold gt
      rw [del_gt h.2 z]
      by_cases e : a.1 = z
      · rw [if_pos e, if_pos e, if_neg (by omega)]
      · rw [if_neg e, if_neg e]
theorem So_lt : ∀ {l : List (Nat × Nat)} {i j : Nat} (_ : So l) (hij : i < j) (hj : j < l.length), (l[i]'(Nat.lt_trans hij hj)).1 < (l[j]).1
  | [], _, _, _, _, hj => absurd hj (Nat.not_lt_zero _)
  | a :: l, i, j, h, hij, hj => by
    cases j with
    | zero => omega
    | succ j =>
      cases i with
      | zero => exact h.1 _ (List.getElem_mem _)
      | succ i => exact So_lt h.2 (Nat.lt_of_succ_lt_succ hij) (Nat.lt_of_succ_lt_succ hj)
/-- k stands where it would -/
theorem So.there {l : List (Nat × Nat)} (h : So l) {b : Nat × Nat} (hb : b ∈ l) : l[bw l b.1]? = some b := by
  obtain ⟨i, hi, e⟩ := List.mem_iff_getElem.mp hb
  have h1 : i = bw l b.1 := by
    rcases Nat.lt_trichotomy i (bw l b.1) with q | q | q
    · have := bw_lt (l := l) hi q; rw [e] at this; omega
    · exact q
    · have h3 : bw l b.1 < l.length := by omega
      have h2 := bw_ge (l := l) (k := b.1) h h3 (Nat.le_refl _)
      have h4 : (l[bw l b.1]).1 < (l[i]).1 := So_lt h q hi
      rw [e] at h4
      omega
  rw [← h1, List.getElem?_eq_getElem hi, e]
end
section
/-! pure layer 5: raising and lowering a key's count -/
def rs (l : List (Nat × Nat)) (k t : Nat) : List (Nat × Nat) := if 0 < gt l k then cst l k (min 100000000 (gt l k + t)) else ins l k t
def lw (l : List (Nat × Nat)) (k t : Nat) : List (Nat × Nat) := if t < gt l k then cst l k (gt l k - t) else del l k
/-- counts above nothing -/
def Po (l : List (Nat × Nat)) : Prop := ∀ b ∈ l, 0 < b.2
theorem gt_has : ∀ {l : List (Nat × Nat)} {k : Nat}, 0 < gt l k → ∃ b ∈ l, b.1 = k ∧ b.2 = gt l k
  | [], _, h => by unfold gt at h; omega
  | a :: l, k, h => by
    unfold gt at h ⊢
    by_cases q : a.1 = k
    · rw [if_pos q]; exact ⟨a, List.mem_cons_self, q, rfl⟩
    · rw [if_neg q] at h ⊢
      obtain ⟨b, h1, h2⟩ := gt_has h
      exact ⟨b, List.mem_cons_of_mem _ h1, h2⟩
theorem gt_none {l : List (Nat × Nat)} {k : Nat} (hs : So l) (hp : Po l) (h : ¬ 0 < gt l k) : ∀ b ∈ l, b.1 ≠ k := fun b hb e => by
  have h1 := gt_in hs hb
  have h2 := hp b hb
  rw [e] at h1
  omega
theorem rs_So {l : List (Nat × Nat)} {k t : Nat} (hs : So l) (hp : Po l) : So (rs l k t) := by
  unfold rs
  split
  · exact cst_So hs
  · rename_i h; exact ins_So hs (gt_none hs hp h)
theorem rs_mem {l : List (Nat × Nat)} {k t : Nat} {b : Nat × Nat} (h : b ∈ rs l k t) : b = (k, min 100000000 (gt l k + t)) ∨ b = (k, t) ∨ b ∈ l := by
  unfold rs at h
  split at h
  · rcases cst_mem h with q | q
    · exact Or.inl q
    · exact Or.inr (Or.inr q)
  · exact Or.inr (ins_mem h)
theorem rs_Po {l : List (Nat × Nat)} {k t : Nat} (hp : Po l) (ht : 0 < t) : Po (rs l k t) := fun b hb => by
  rcases rs_mem hb with e | e | e
  · rw [e]; show 0 < min 100000000 (gt l k + t); omega
  · rw [e]; exact ht
  · exact hp b e
theorem rs_gt {l : List (Nat × Nat)} {k t : Nat} (hs : So l) (hp : Po l) (hb : gt l k + t ≤ 100000000) (z : Nat) : gt (rs l k t) z = if k = z then gt l k + t else gt l z := by
  unfold rs
  split
  · rename_i h
    obtain ⟨b, h1, h2, h3⟩ := gt_has h
    rw [cst_gt ⟨b, h1, h2⟩ z]
    rw [Nat.min_eq_right hb]
  · rename_i h
    rw [ins_gt (gt_none hs hp h) z]
    have : gt l k = 0 := by omega
    rw [this, Nat.zero_add]
theorem rs_len {l : List (Nat × Nat)} {k t : Nat} : (rs l k t).length ≤ l.length + 1 := by
  unfold rs
  split
  · rw [cst_len]; omega
  · rw [ins_len]; exact Nat.le_refl _
theorem del_none : ∀ {l : List (Nat × Nat)} {k : Nat}, (∀ b ∈ l, b.1 ≠ k) → del l k = l
  | [], _, _ => rfl
  | a :: l, k, h => by
    unfold del
    rw [if_neg (h a List.mem_cons_self), del_none fun b hb => h b (List.mem_cons_of_mem _ hb)]
theorem lw_So {l : List (Nat × Nat)} {k t : Nat} (hs : So l) : So (lw l k t) := by
  unfold lw
  split
  · exact cst_So hs
  · exact del_So hs
theorem lw_mem {l : List (Nat × Nat)} {k t : Nat} {b : Nat × Nat} (h : b ∈ lw l k t) : (b = (k, gt l k - t) ∧ t < gt l k) ∨ b ∈ l := by
  unfold lw at h
  split at h
  · rename_i q
    rcases cst_mem h with e | e
    · exact Or.inl ⟨e, q⟩
    · exact Or.inr e
  · exact Or.inr (del_mem h)
theorem lw_Po {l : List (Nat × Nat)} {k t : Nat} (hp : Po l) : Po (lw l k t) := fun b hb => by
  rcases lw_mem hb with ⟨e, q⟩ | e
  · rw [e]; show 0 < gt l k - t; omega
  · exact hp b e
theorem lw_gt {l : List (Nat × Nat)} {k t : Nat} (hs : So l) (z : Nat) : gt (lw l k t) z = if k = z then gt l k - t else gt l z := by
  unfold lw
  split
  · rename_i h
    obtain ⟨b, h1, h2, h3⟩ := gt_has (l := l) (k := k) (by omega)
    exact cst_gt ⟨b, h1, h2⟩ z
  · rename_i h
    rw [del_gt hs z]
    have : gt l k - t = 0 := by omega
    rw [this]
theorem lw_len {l : List (Nat × Nat)} {k t : Nat} : (lw l k t).length ≤ l.length := by
  unfold lw
  split
  · rw [cst_len]; exact Nat.le_refl _
  · by_cases h : ∃ b ∈ l, b.1 = k
    · have := del_len h; omega
    · rw [del_none fun b hb e => h ⟨b, hb, e⟩]; exact Nat.le_refl _
-- many at once
def rsA (l : List (Nat × Nat)) (t : Nat) : List Nat → List (Nat × Nat)
  | [] => l
  | k :: ks => rsA (rs l k t) t ks
def lwA (l : List (Nat × Nat)) (t : Nat) : List Nat → List (Nat × Nat)
  | [] => l
  | k :: ks => lwA (lw l k t) t ks
/-- how often k stands in a list of keys -/
def oc (k : Nat) : List Nat → Nat
  | [] => 0
  | z :: ks => (if z = k then 1 else 0) + oc k ks
theorem oc_cons (k z : Nat) (ks : List Nat) : oc k (z :: ks) = (if z = k then 1 else 0) + oc k ks := rfl
theorem oc_le (k : Nat) : ∀ ks : List Nat, oc k ks ≤ ks.length
  | [] => Nat.le_refl _
  | z :: ks => by
    have := oc_le k ks
    rw [oc_cons, List.length_cons]
    split <;> omega
theorem rsA_all {t B : Nat} (ht : 0 < t) : ∀ (ks : List Nat) {l : List (Nat × Nat)}, So l → Po l → (∀ k, gt l k ≤ B) → B + t * ks.length ≤ 100000000 → So (rsA l t ks) ∧ Po (rsA l t ks) ∧ (∀ k, gt (rsA l t ks) k = gt l k + t * oc k ks) ∧ (rsA l t ks).length ≤ l.length + ks.length
  | [], l, hs, hp, _, _ => ⟨hs, hp, fun k => by show gt l k = gt l k + t * 0; omega, Nat.le_refl _⟩
  | z :: ks, l, hs, hp, hB, hb => by
    rw [List.length_cons, Nat.mul_succ] at hb
    have hz : gt l z + t ≤ 100000000 := by have := hB z; omega
    have hg := rs_gt hs hp hz
    obtain ⟨a1, a2, a3, a4⟩ := rsA_all (t := t) (B := B + t) ht ks (rs_So (k := z) (t := t) hs hp) (rs_Po (k := z) hp ht) (fun k => by
      rw [hg k]
      have := hB k
      have := hB z
      split <;> omega) (by omega)
    refine ⟨a1, a2, fun k => ?_, ?_⟩
    · show gt (rsA (rs l z t) t ks) k = _
      rw [a3 k, hg k]
      rw [oc_cons, Nat.mul_add]
      by_cases e : z = k
      · subst e; rw [if_pos rfl, if_pos rfl]; omega
      · rw [if_neg e, if_neg e]; omega
    · show (rsA (rs l z t) t ks).length ≤ _
      have := rs_len (l := l) (k := z) (t := t)
      rw [List.length_cons]
      omega
theorem lwA_all {t : Nat} : ∀ (ks : List Nat) {l : List (Nat × Nat)}, So l → Po l → So (lwA l t ks) ∧ Po (lwA l t ks) ∧ (∀ k, gt (lwA l t ks) k = gt l k - t * oc k ks) ∧ (lwA l t ks).length ≤ l.length
  | [], l, hs, hp => ⟨hs, hp, fun k => by show gt l k = gt l k - t * 0; omega, Nat.le_refl _⟩
  | z :: ks, l, hs, hp => by
    have hg := lw_gt (k := z) (t := t) hs
    obtain ⟨a1, a2, a3, a4⟩ := lwA_all (t := t) ks (lw_So (k := z) (t := t) hs) (lw_Po (k := z) (t := t) hp)
    refine ⟨a1, a2, fun k => ?_, ?_⟩
    · show gt (lwA (lw l z t) t ks) k = _
      rw [a3 k, hg k]
      rw [oc_cons, Nat.mul_add]
      by_cases e : z = k
      · subst e; rw [if_pos rfl, if_pos rfl]; omega
      · rw [if_neg e, if_neg e]; omega
    · show (lwA (lw l z t) t ks).length ≤ _
      have := lw_len (l := l) (k := z) (t := t)
      omega
/-- raised and lowered by the same keys: as it was -/
theorem rs_lw {t B : Nat} {l : List (Nat × Nat)} {ks : List Nat} (ht : 0 < t) (hs : So l) (hp : Po l) (hB : ∀ k, gt l k ≤ B) (hb : B + t * ks.length ≤ 100000000) : lwA (rsA l t ks) t ks = l := by
  obtain ⟨a1, a2, a3, _⟩ := rsA_all ht ks hs hp hB hb
  obtain ⟨b1, b2, b3, _⟩ := lwA_all (t := t) ks a1 a2
  exact So.ext b1 hs b2 hp fun k => by rw [b3 k, a3 k]; omega
end
section
/-! pure layer 6: what is gathered behind a context: the first entries alone, one entry more -/
theorem So_take : ∀ {l : List (Nat × Nat)} (n : Nat), So l → So (l.take n)
  | [], n, _ => by rw [List.take_nil]; trivial
  | a :: l, 0, _ => trivial
  | a :: l, n + 1, h => ⟨fun b hb => h.1 b (List.mem_of_mem_take hb), So_take n h.2⟩
theorem gt_take_s : ∀ {l : List (Nat × Nat)} {i : Nat} {b : Nat × Nat}, So l → l[i]? = some b → ∀ k, gt (l.take (i + 1)) k = if b.1 = k then b.2 else gt (l.take i) k
  | [], _, _, _, h, _ => by cases h
  | a :: l, 0, b, _, h, k => by cases h; rfl
  | a :: l, i + 1, b, hs, h, k => by
    have h' : l[i]? = some b := h
    have hb : b ∈ l := List.mem_of_getElem? h'
    have hab := hs.1 b hb
    have ih := gt_take_s hs.2 h' k
    show (if a.1 = k then a.2 else gt (l.take (i + 1)) k) = if b.1 = k then b.2 else if a.1 = k then a.2 else gt (l.take i) k
    rw [ih]
    by_cases e : a.1 = k
    · rw [if_pos e, if_pos e, if_neg (by omega)]
    · rw [if_neg e, if_neg e]
/-- ahead of the place nothing above is counted -/
theorem gt_take_0 {l : List (Nat × Nat)} {i k : Nat} (h : ∀ j (hj : j < l.length), j < i → (l[j]).1 < k) : gt (l.take i) k = 0 := gt_out fun b hb => by
  obtain ⟨j, hj, e⟩ := List.mem_iff_getElem.mp hb
  rw [List.length_take] at hj
  rw [List.getElem_take] at e
  have := h j (by omega) (by omega)
  rw [e] at this
  omega
/-- what lies behind the place isn't counted below it -/
theorem gt_take_all : ∀ {l : List (Nat × Nat)} {i k : Nat}, (∀ j (hj : j < l.length), i ≤ j → k < (l[j]).1) → gt (l.take i) k = gt l k
  | [], i, k, _ => by rw [List.take_nil]
  | a :: l, 0, k, h => by
    show 0 = gt (a :: l) k
    refine (gt_out fun b hb => ?_).symm
    obtain ⟨j, hj, e⟩ := List.mem_iff_getElem.mp hb
    have := h j hj (Nat.zero_le _)
    rw [e] at this
    omega
  | a :: l, i + 1, k, h => by
    show (if a.1 = k then a.2 else gt (l.take i) k) = if a.1 = k then a.2 else gt l k
    rw [gt_take_all fun j hj hi => h (j + 1) (Nat.succ_lt_succ hj) (Nat.succ_le_succ hi)]
theorem sm_upd {f : Nat → Nat} {w v : Nat} (h0 : f w = 0) : ∀ {n : Nat}, w < n → sm (fun j => if j = w then v else f j) n = sm f n + v
  | 0, h => absurd h (Nat.not_lt_zero _)
  | n + 1, h => by
    rw [sm_s, sm_s]
    by_cases e : n = w
    · subst e
      rw [if_pos rfl, h0, sm_cg (g := f) fun i hi => if_neg (by omega)]
      omega
    · rw [if_neg e, sm_upd h0 (by omega)]
      omega
/-- the own counts of the first i entries, behind the keys from F on -/
def ow (l : List (Nat × Nat)) (F i w : Nat) : Nat := gt (l.take i) (F + w + 1)
theorem ow_s {l : List (Nat × Nat)} {F i w : Nat} {b : Nat × Nat} (hs : So l) (hb : l[i]? = some b) (hw : b.1 = F + w + 1) : (∀ j, ow l F (i + 1) j = if j = w then b.2 else ow l F i j) ∧ ow l F i w = 0 := by
  have hi : i < l.length := (List.getElem?_eq_some_iff.mp hb).1
  have he : l[i] = b := (List.getElem?_eq_some_iff.mp hb).2
  refine ⟨fun j => ?_, ?_⟩
  · unfold ow
    rw [gt_take_s hs hb]
    by_cases e : j = w
    · subst e; rw [if_pos hw, if_pos rfl]
    · rw [if_neg (by omega), if_neg e]
  · refine gt_take_0 fun j hj hji => ?_
    have := So_lt hs hji hi
    rw [he] at this
    omega
theorem ow_sum {l : List (Nat × Nat)} {F i w n : Nat} {b : Nat × Nat} (hs : So l) (hp : Po l) (hb : l[i]? = some b) (hw : b.1 = F + w + 1) (hn : w < n) : sm (ow l F (i + 1)) n = sm (ow l F i) n + b.2 ∧ kd (ow l F (i + 1)) n = kd (ow l F i) n + 1 := by
  obtain ⟨h1, h2⟩ := ow_s hs hb hw
  have hpos := hp b (List.mem_of_getElem? hb)
  constructor
  · rw [sm_cg fun j _ => h1 j, sm_upd h2 hn]
  · unfold kd
    rw [← sm_upd (f := fun j => if 0 < ow l F i j then 1 else 0) (w := w) (v := 1) (by rw [h2]; rfl) hn]
    refine sm_cg fun j _ => ?_
    rw [h1 j]
    by_cases e : j = w
    · rw [if_pos e, if_pos e, if_pos hpos]
    · rw [if_neg e, if_neg e]
theorem ow_0 {l : List (Nat × Nat)} {F : Nat} (w : Nat) : ow l F (bw l F) w = 0 := gt_take_0 fun j hj h => by
  have := bw_lt (l := l) hj h
  omega
theorem ow_end {l : List (Nat × Nat)} {F e w : Nat} (hw : w < 13) (h : ∀ j (hj : j < l.length), e ≤ j → F + 14 ≤ (l[j]).1) : ow l F e w = gt l (F + w + 1) := gt_take_all fun j hj hi => by
  have := h j hj hi
  omega
end
section
-- ===== PART A: goes FIRST, ahead of the names: the tables' words, and 'selects' of the private methods out of them =====
/-- a private method of a class that the tables say can be made, by its rows of tables_1 -/
def lw_okq (q : MethodName × Nat) : Prop := (q.1.cls ≠ "java/lang/invoke/MethodHandle" ∧ q.1.cls ≠ "java/lang/invoke/VarHandle") ∧ Cond.instantiable q.1.cls q.2 ∈ tables_1 ∧ Cond.privateMethod q.1 ∈ tables_1 ∧ Cond.instanceMethod q.1 ∈ tables_1
theorem lw_p0 : lw_okq (⟨"Canticle", "isWord", "(I)Z"⟩, 10) := ⟨⟨by decide +kernel, by decide +kernel⟩, List.mem_of_getElem? (i := 18) (by decide +kernel), List.mem_of_getElem? (i := 196) (by decide +kernel), List.mem_of_getElem? (i := 197) (by decide +kernel)⟩
theorem lw_p1 : lw_okq (⟨"java/lang/Throwable", "fillInStackTrace", "(I)Ljava/lang/Throwable;"⟩, 6) := ⟨⟨by decide +kernel, by decide +kernel⟩, List.mem_of_getElem? (i := 238) (by decide +kernel), List.mem_of_getElem? (i := 236) (by decide +kernel), List.mem_of_getElem? (i := 237) (by decide +kernel)⟩
theorem lw_p2 : lw_okq (⟨"Canticle", "append", "(I)V"⟩, 10) := ⟨⟨by decide +kernel, by decide +kernel⟩, List.mem_of_getElem? (i := 18) (by decide +kernel), List.mem_of_getElem? (i := 284) (by decide +kernel), List.mem_of_getElem? (i := 285) (by decide +kernel)⟩
theorem lw_p3 : lw_okq (⟨"Canticle", "addSentence", "(I)V"⟩, 10) := ⟨⟨by decide +kernel, by decide +kernel⟩, List.mem_of_getElem? (i := 18) (by decide +kernel), List.mem_of_getElem? (i := 313) (by decide +kernel), List.mem_of_getElem? (i := 314) (by decide +kernel)⟩
theorem lw_p4 : lw_okq (⟨"Canticle", "keyUpTo", "(II)I"⟩, 10) := ⟨⟨by decide +kernel, by decide +kernel⟩, List.mem_of_getElem? (i := 18) (by decide +kernel), List.mem_of_getElem? (i := 317) (by decide +kernel), List.mem_of_getElem? (i := 318) (by decide +kernel)⟩
theorem lw_p5 : lw_okq (⟨"Canticle", "digitAt", "(I)I"⟩, 10) := ⟨⟨by decide +kernel, by decide +kernel⟩, List.mem_of_getElem? (i := 18) (by decide +kernel), List.mem_of_getElem? (i := 321) (by decide +kernel), List.mem_of_getElem? (i := 322) (by decide +kernel)⟩
theorem lw_p6 : lw_okq (⟨"Canticle", "takeSentence", "(I)I"⟩, 10) := ⟨⟨by decide +kernel, by decide +kernel⟩, List.mem_of_getElem? (i := 18) (by decide +kernel), List.mem_of_getElem? (i := 366) (by decide +kernel), List.mem_of_getElem? (i := 367) (by decide +kernel)⟩
theorem lw_p7 : lw_okq (⟨"Canticle$Ledger", "lowerVariety", "(II)V"⟩, 4) := ⟨⟨by decide +kernel, by decide +kernel⟩, List.mem_of_getElem? (i := 26) (by decide +kernel), List.mem_of_getElem? (i := 382) (by decide +kernel), List.mem_of_getElem? (i := 383) (by decide +kernel)⟩
theorem lw_p8 : lw_okq (⟨"Canticle", "canTakeSentence", "()Z"⟩, 10) := ⟨⟨by decide +kernel, by decide +kernel⟩, List.mem_of_getElem? (i := 18) (by decide +kernel), List.mem_of_getElem? (i := 391) (by decide +kernel), List.mem_of_getElem? (i := 392) (by decide +kernel)⟩
theorem lw_p9 : lw_okq (⟨"Canticle", "timesInSentence", "(II)I"⟩, 10) := ⟨⟨by decide +kernel, by decide +kernel⟩, List.mem_of_getElem? (i := 18) (by decide +kernel), List.mem_of_getElem? (i := 400) (by decide +kernel), List.mem_of_getElem? (i := 401) (by decide +kernel)⟩
theorem lw_p10 : lw_okq (⟨"Canticle", "isOrder", "(I)Z"⟩, 10) := ⟨⟨by decide +kernel, by decide +kernel⟩, List.mem_of_getElem? (i := 18) (by decide +kernel), List.mem_of_getElem? (i := 418) (by decide +kernel), List.mem_of_getElem? (i := 419) (by decide +kernel)⟩
theorem lw_p11 : lw_okq (⟨"Canticle", "totalBehind", "(II)I"⟩, 10) := ⟨⟨by decide +kernel, by decide +kernel⟩, List.mem_of_getElem? (i := 18) (by decide +kernel), List.mem_of_getElem? (i := 428) (by decide +kernel), List.mem_of_getElem? (i := 429) (by decide +kernel)⟩
theorem lw_p12 : lw_okq (⟨"Canticle", "dropDoomed", "(I)I"⟩, 10) := ⟨⟨by decide +kernel, by decide +kernel⟩, List.mem_of_getElem? (i := 18) (by decide +kernel), List.mem_of_getElem? (i := 445) (by decide +kernel), List.mem_of_getElem? (i := 446) (by decide +kernel)⟩
theorem lw_p13 : lw_okq (⟨"Canticle", "reckonBehindSentence", "()V"⟩, 10) := ⟨⟨by decide +kernel, by decide +kernel⟩, List.mem_of_getElem? (i := 18) (by decide +kernel), List.mem_of_getElem? (i := 467) (by decide +kernel), List.mem_of_getElem? (i := 468) (by decide +kernel)⟩
theorem lw_p14 : lw_okq (⟨"Canticle$Reckoner", "refine", "(II)V"⟩, 7) := ⟨⟨by decide +kernel, by decide +kernel⟩, List.mem_of_getElem? (i := 77) (by decide +kernel), List.mem_of_getElem? (i := 477) (by decide +kernel), List.mem_of_getElem? (i := 478) (by decide +kernel)⟩
theorem lw_p15 : lw_okq (⟨"Canticle$Reckoner", "blend", "(JJ)J"⟩, 7) := ⟨⟨by decide +kernel, by decide +kernel⟩, List.mem_of_getElem? (i := 77) (by decide +kernel), List.mem_of_getElem? (i := 484) (by decide +kernel), List.mem_of_getElem? (i := 485) (by decide +kernel)⟩
def lw_privs_1 : List (MethodName × Nat) := [(⟨"Canticle", "isWord", "(I)Z"⟩, 10), (⟨"java/lang/Throwable", "fillInStackTrace", "(I)Ljava/lang/Throwable;"⟩, 6), (⟨"Canticle", "append", "(I)V"⟩, 10), (⟨"Canticle", "addSentence", "(I)V"⟩, 10), (⟨"Canticle", "keyUpTo", "(II)I"⟩, 10), (⟨"Canticle", "digitAt", "(I)I"⟩, 10), (⟨"Canticle", "takeSentence", "(I)I"⟩, 10), (⟨"Canticle$Ledger", "lowerVariety", "(II)V"⟩, 4), (⟨"Canticle", "canTakeSentence", "()Z"⟩, 10), (⟨"Canticle", "timesInSentence", "(II)I"⟩, 10), (⟨"Canticle", "isOrder", "(I)Z"⟩, 10), (⟨"Canticle", "totalBehind", "(II)I"⟩, 10), (⟨"Canticle", "dropDoomed", "(I)I"⟩, 10), (⟨"Canticle", "reckonBehindSentence", "()V"⟩, 10), (⟨"Canticle$Reckoner", "refine", "(II)V"⟩, 7), (⟨"Canticle$Reckoner", "blend", "(JJ)J"⟩, 7)]
theorem lw_r1 : ∀ q ∈ lw_privs_1, lw_okq q := List.forall_mem_cons.mpr ⟨lw_p0, List.forall_mem_cons.mpr ⟨lw_p1, List.forall_mem_cons.mpr ⟨lw_p2, List.forall_mem_cons.mpr ⟨lw_p3, List.forall_mem_cons.mpr ⟨lw_p4, List.forall_mem_cons.mpr ⟨lw_p5, List.forall_mem_cons.mpr ⟨lw_p6, List.forall_mem_cons.mpr ⟨lw_p7, List.forall_mem_cons.mpr ⟨lw_p8, List.forall_mem_cons.mpr ⟨lw_p9, List.forall_mem_cons.mpr ⟨lw_p10, List.forall_mem_cons.mpr ⟨lw_p11, List.forall_mem_cons.mpr ⟨lw_p12, List.forall_mem_cons.mpr ⟨lw_p13, List.forall_mem_cons.mpr ⟨lw_p14, List.forall_mem_cons.mpr ⟨lw_p15, fun _ h => absurd h List.not_mem_nil⟩⟩⟩⟩⟩⟩⟩⟩⟩⟩⟩⟩⟩⟩⟩⟩
theorem lw_p16 : lw_okq (⟨"Canticle$Reckoner", "rankOf", "(I)I"⟩, 7) := ⟨⟨by decide +kernel, by decide +kernel⟩, List.mem_of_getElem? (i := 77) (by decide +kernel), List.mem_of_getElem? (i := 502) (by decide +kernel), List.mem_of_getElem? (i := 503) (by decide +kernel)⟩
theorem lw_p17 : lw_okq (⟨"Canticle$Reckoner", "isLikelier", "(II)Z"⟩, 7) := ⟨⟨by decide +kernel, by decide +kernel⟩, List.mem_of_getElem? (i := 77) (by decide +kernel), List.mem_of_getElem? (i := 506) (by decide +kernel), List.mem_of_getElem? (i := 507) (by decide +kernel)⟩
theorem lw_p18 : lw_okq (⟨"Canticle", "sumOfCosts", "()I"⟩, 10) := ⟨⟨by decide +kernel, by decide +kernel⟩, List.mem_of_getElem? (i := 18) (by decide +kernel), List.mem_of_getElem? (i := 523) (by decide +kernel), List.mem_of_getElem? (i := 524) (by decide +kernel)⟩
theorem lw_p19 : lw_okq (⟨"Canticle$Search", "fillCosts", "(II)V"⟩, 6) := ⟨⟨by decide +kernel, by decide +kernel⟩, List.mem_of_getElem? (i := 111) (by decide +kernel), List.mem_of_getElem? (i := 540) (by decide +kernel), List.mem_of_getElem? (i := 541) (by decide +kernel)⟩
theorem lw_p20 : lw_okq (⟨"Canticle$Search", "placesAt", "(I)I"⟩, 6) := ⟨⟨by decide +kernel, by decide +kernel⟩, List.mem_of_getElem? (i := 111) (by decide +kernel), List.mem_of_getElem? (i := 544) (by decide +kernel), List.mem_of_getElem? (i := 545) (by decide +kernel)⟩
theorem lw_p21 : lw_okq (⟨"Canticle$Search", "statesAt", "(I)I"⟩, 6) := ⟨⟨by decide +kernel, by decide +kernel⟩, List.mem_of_getElem? (i := 111) (by decide +kernel), List.mem_of_getElem? (i := 550) (by decide +kernel), List.mem_of_getElem? (i := 551) (by decide +kernel)⟩
theorem lw_p22 : lw_okq (⟨"Canticle$Search", "keyOf", "(II)I"⟩, 6) := ⟨⟨by decide +kernel, by decide +kernel⟩, List.mem_of_getElem? (i := 111) (by decide +kernel), List.mem_of_getElem? (i := 555) (by decide +kernel), List.mem_of_getElem? (i := 556) (by decide +kernel)⟩
theorem lw_p23 : lw_okq (⟨"Canticle$Search", "chooseAt", "(I)V"⟩, 6) := ⟨⟨by decide +kernel, by decide +kernel⟩, List.mem_of_getElem? (i := 111) (by decide +kernel), List.mem_of_getElem? (i := 561) (by decide +kernel), List.mem_of_getElem? (i := 562) (by decide +kernel)⟩
theorem lw_p24 : lw_okq (⟨"Canticle", "isStep", "(II)Z"⟩, 10) := ⟨⟨by decide +kernel, by decide +kernel⟩, List.mem_of_getElem? (i := 18) (by decide +kernel), List.mem_of_getElem? (i := 577) (by decide +kernel), List.mem_of_getElem? (i := 578) (by decide +kernel)⟩
theorem lw_p25 : lw_okq (⟨"Canticle", "takeByStep", "(II)V"⟩, 10) := ⟨⟨by decide +kernel, by decide +kernel⟩, List.mem_of_getElem? (i := 18) (by decide +kernel), List.mem_of_getElem? (i := 601) (by decide +kernel), List.mem_of_getElem? (i := 602) (by decide +kernel)⟩
theorem lw_p26 : lw_okq (⟨"Canticle", "outcomeOf", "(II)I"⟩, 10) := ⟨⟨by decide +kernel, by decide +kernel⟩, List.mem_of_getElem? (i := 18) (by decide +kernel), List.mem_of_getElem? (i := 605) (by decide +kernel), List.mem_of_getElem? (i := 606) (by decide +kernel)⟩
theorem lw_p27 : lw_okq (⟨"Canticle", "draw", "(I)I"⟩, 10) := ⟨⟨by decide +kernel, by decide +kernel⟩, List.mem_of_getElem? (i := 18) (by decide +kernel), List.mem_of_getElem? (i := 613) (by decide +kernel), List.mem_of_getElem? (i := 614) (by decide +kernel)⟩
theorem lw_p28 : lw_okq (⟨"Canticle", "allOutcomes", "()I"⟩, 10) := ⟨⟨by decide +kernel, by decide +kernel⟩, List.mem_of_getElem? (i := 18) (by decide +kernel), List.mem_of_getElem? (i := 625) (by decide +kernel), List.mem_of_getElem? (i := 626) (by decide +kernel)⟩
theorem lw_p29 : lw_okq (⟨"Canticle", "mixEntries", "(JI)J"⟩, 10) := ⟨⟨by decide +kernel, by decide +kernel⟩, List.mem_of_getElem? (i := 18) (by decide +kernel), List.mem_of_getElem? (i := 654) (by decide +kernel), List.mem_of_getElem? (i := 655) (by decide +kernel)⟩
theorem lw_p30 : lw_okq (⟨"Canticle", "partOf", "(III)I"⟩, 10) := ⟨⟨by decide +kernel, by decide +kernel⟩, List.mem_of_getElem? (i := 18) (by decide +kernel), List.mem_of_getElem? (i := 658) (by decide +kernel), List.mem_of_getElem? (i := 659) (by decide +kernel)⟩
theorem lw_p31 : lw_okq (⟨"Canticle", "mixChances", "(J)J"⟩, 10) := ⟨⟨by decide +kernel, by decide +kernel⟩, List.mem_of_getElem? (i := 18) (by decide +kernel), List.mem_of_getElem? (i := 663) (by decide +kernel), List.mem_of_getElem? (i := 664) (by decide +kernel)⟩
def lw_privs_2 : List (MethodName × Nat) := [(⟨"Canticle$Reckoner", "rankOf", "(I)I"⟩, 7), (⟨"Canticle$Reckoner", "isLikelier", "(II)Z"⟩, 7), (⟨"Canticle", "sumOfCosts", "()I"⟩, 10), (⟨"Canticle$Search", "fillCosts", "(II)V"⟩, 6), (⟨"Canticle$Search", "placesAt", "(I)I"⟩, 6), (⟨"Canticle$Search", "statesAt", "(I)I"⟩, 6), (⟨"Canticle$Search", "keyOf", "(II)I"⟩, 6), (⟨"Canticle$Search", "chooseAt", "(I)V"⟩, 6), (⟨"Canticle", "isStep", "(II)Z"⟩, 10), (⟨"Canticle", "takeByStep", "(II)V"⟩, 10), (⟨"Canticle", "outcomeOf", "(II)I"⟩, 10), (⟨"Canticle", "draw", "(I)I"⟩, 10), (⟨"Canticle", "allOutcomes", "()I"⟩, 10), (⟨"Canticle", "mixEntries", "(JI)J"⟩, 10), (⟨"Canticle", "partOf", "(III)I"⟩, 10), (⟨"Canticle", "mixChances", "(J)J"⟩, 10)]
theorem lw_r2 : ∀ q ∈ lw_privs_2, lw_okq q := List.forall_mem_cons.mpr ⟨lw_p16, List.forall_mem_cons.mpr ⟨lw_p17, List.forall_mem_cons.mpr ⟨lw_p18, List.forall_mem_cons.mpr ⟨lw_p19, List.forall_mem_cons.mpr ⟨lw_p20, List.forall_mem_cons.mpr ⟨lw_p21, List.forall_mem_cons.mpr ⟨lw_p22, List.forall_mem_cons.mpr ⟨lw_p23, List.forall_mem_cons.mpr ⟨lw_p24, List.forall_mem_cons.mpr ⟨lw_p25, List.forall_mem_cons.mpr ⟨lw_p26, List.forall_mem_cons.mpr ⟨lw_p27, List.forall_mem_cons.mpr ⟨lw_p28, List.forall_mem_cons.mpr ⟨lw_p29, List.forall_mem_cons.mpr ⟨lw_p30, List.forall_mem_cons.mpr ⟨lw_p31, fun _ h => absurd h List.not_mem_nil⟩⟩⟩⟩⟩⟩⟩⟩⟩⟩⟩⟩⟩⟩⟩⟩
def lw_privs : List (MethodName × Nat) := lw_privs_1 ++ (lw_privs_2)
def lw_tbl : List Cond := k2_sels lw_privs ++ tables_1
theorem lw_privs_ok : ∀ q ∈ lw_privs, lw_okq q := by
  show ∀ q ∈ lw_privs_1 ++ (lw_privs_2), lw_okq q
  exact List.forall_mem_append.mpr ⟨lw_r1, lw_r2⟩
/-- the streams that the claim lets the run draw from -/
abbrev lw_cs : List Choice := [Jvm.Choice.named "NaN.bits"]
theorem lw_bits : nanBits ∈ lw_cs := by first | decide | exact List.mem_cons_self | simp [lw_cs, nanBits]
end
section
/-- an array class over arrays of t has been made (the printed row va_mna asks it under this name) -/
def va_AOA (t : FieldType) (U : State) : Prop := ∀ a : Array Value, (Cond.arrayOver (.array t)).before a U = true
theorem va_AOA.use {t : FieldType} {A : Array Value} {U : State} (h : va_AOA t U) : (Cond.arrayOver (.array t)).before A U = true := h A
theorem va_AOA.of {t : FieldType} {A : Array Value} {U : State} (h : (Cond.arrayOver (.array t)).before A U = true) : va_AOA t U := fun _ => h
theorem va_AOA.moved {t : FieldType} {u U : State} (hvm : u.vm.Alike U.vm) (h : va_AOA t u) : va_AOA t U := fun a => (Cond.arrayOver_setVmC (args := a) (s := u) hvm (.array t)).trans (h a)
end
section
def RX0 : String := "Canticle$Ledger"
def TX0 : u_T := fun k => match k with
  | 0 => ("Canticle$Ledger", "words", "I", false)
  | 1 => ("Canticle$Ledger", "order", "I", false)
  | 2 => ("Canticle$Ledger", "counted", "[LCanticle$Tally;", true)
  | _ => ("Canticle$Ledger", "varied", "[LCanticle$Tally;", true)
def tyX0 : Nat → FieldType := fun k => match k with
  | 0 => .int
  | 1 => .int
  | 2 => .array (.object "Canticle$Tally")
  | _ => .array (.object "Canticle$Tally")
abbrev wsX00 : List Cond := u_ws RX0 TX0 4
theorem nmX0 : ∀ a, a < 4 → ∀ b, b < 4 → a ≠ b → (TX0 a).2.1 ≠ (TX0 b).2.1 := by decide +kernel
theorem tyX0_ok : ∀ k, k < 4 → parseFieldDescriptor (TX0 k).2.2.1 = some (tyX0 k) := by decide +kernel
abbrev cX0_init : ByteArray := prog_2_method_1_code
def yX0_init : MethodName := ⟨RX0, "<init>", "()V"⟩
abbrev cX0_countsOf : ByteArray := prog_2_method_2_code
def yX0_countsOf : MethodName := ⟨RX0, "countsOf", "(I)LCanticle$Tally;"⟩
abbrev cX0_varietyOf : ByteArray := prog_2_method_3_code
def yX0_varietyOf : MethodName := ⟨RX0, "varietyOf", "(I)LCanticle$Tally;"⟩
abbrev cX0_raise : ByteArray := prog_2_method_4_code
def yX0_raise : MethodName := ⟨RX0, "raise", "(III)V"⟩
abbrev cX0_lower : ByteArray := prog_2_method_5_code
def yX0_lower : MethodName := ⟨RX0, "lower", "(III)Z"⟩
abbrev cX0_drop : ByteArray := prog_2_method_6_code
def yX0_drop : MethodName := ⟨RX0, "drop", "(II)V"⟩
abbrev cX0_lowerVariety : ByteArray := prog_2_method_7_code
def yX0_lowerVariety : MethodName := ⟨RX0, "lowerVariety", "(II)V"⟩
abbrev cX0_sizeInAll : ByteArray := prog_2_method_8_code
def yX0_sizeInAll : MethodName := ⟨RX0, "sizeInAll", "()I"⟩
abbrev cX0_forgetAll : ByteArray := prog_2_method_9_code
def yX0_forgetAll : MethodName := ⟨RX0, "forgetAll", "()V"⟩
def RX1 : String := "Canticle$Reckoner"
def TX1 : u_T := fun k => match k with
  | 0 => ("Canticle$Reckoner", "ledger", "LCanticle$Ledger;", true)
  | 1 => ("Canticle$Reckoner", "way", "I", false)
  | 2 => ("Canticle$Reckoner", "number", "I", false)
  | 3 => ("Canticle$Reckoner", "chances", "[I", true)
  | 4 => ("Canticle$Reckoner", "own", "[I", true)
  | 5 => ("Canticle$Reckoner", "sum", "J", false)
  | _ => ("Canticle$Reckoner", "kinds", "I", false)
def tyX1 : Nat → FieldType := fun k => match k with
  | 0 => .object "Canticle$Ledger"
  | 1 => .int
  | 2 => .int
  | 3 => .array .int
  | 4 => .array .int
  | 5 => .long
  | _ => .int
abbrev wsX10 : List Cond := u_ws RX1 TX1 7
theorem nmX1 : ∀ a, a < 7 → ∀ b, b < 7 → a ≠ b → (TX1 a).2.1 ≠ (TX1 b).2.1 := by decide +kernel
theorem tyX1_ok : ∀ k, k < 7 → parseFieldDescriptor (TX1 k).2.2.1 = some (tyX1 k) := by decide +kernel
abbrev cX1_init : ByteArray := prog_3_method_1_code
def yX1_init : MethodName := ⟨RX1, "<init>", "(LCanticle$Ledger;)V"⟩
abbrev cX1_reckon : ByteArray := prog_3_method_2_code
def yX1_reckon : MethodName := ⟨RX1, "reckon", "(II)V"⟩
abbrev cX1_refine : ByteArray := prog_3_method_3_code
def yX1_refine : MethodName := ⟨RX1, "refine", "(II)V"⟩
abbrev cX1_gather : ByteArray := prog_3_method_4_code
def yX1_gather : MethodName := ⟨RX1, "gather", "(LCanticle$Tally;I)V"⟩
abbrev cX1_blend : ByteArray := prog_3_method_5_code
def yX1_blend : MethodName := ⟨RX1, "blend", "(JJ)J"⟩
abbrev cX1_isLikelier : ByteArray := prog_3_method_6_code
def yX1_isLikelier : MethodName := ⟨RX1, "isLikelier", "(II)Z"⟩
abbrev cX1_rankOf : ByteArray := prog_3_method_7_code
def yX1_rankOf : MethodName := ⟨RX1, "rankOf", "(I)I"⟩
abbrev cX1_withRank : ByteArray := prog_3_method_8_code
def yX1_withRank : MethodName := ⟨RX1, "withRank", "(I)I"⟩
abbrev cX1_likeliest : ByteArray := prog_3_method_9_code
def yX1_likeliest : MethodName := ⟨RX1, "likeliest", "(I)I"⟩
abbrev cX1_pick : ByteArray := prog_3_method_10_code
def yX1_pick : MethodName := ⟨RX1, "pick", "(II)I"⟩
def RX2 : String := "Canticle$Script"
def TX2 : u_T := fun k => match k with
  | 0 => ("Canticle$Script", "codes", "[I", true)
  | 1 => ("Canticle$Script", "numbers", "[I", true)
  | 2 => ("Canticle$Script", "returns", "[I", true)
  | _ => ("Canticle$Script", "size", "I", false)
def tyX2 : Nat → FieldType := fun k => match k with
  | 0 => .array .int
  | 1 => .array .int
  | 2 => .array .int
  | _ => .int
abbrev wsX20 : List Cond := u_ws RX2 TX2 4
theorem nmX2 : ∀ a, a < 4 → ∀ b, b < 4 → a ≠ b → (TX2 a).2.1 ≠ (TX2 b).2.1 := by decide +kernel
theorem tyX2_ok : ∀ k, k < 4 → parseFieldDescriptor (TX2 k).2.2.1 = some (tyX2 k) := by decide +kernel
abbrev cX2_init : ByteArray := prog_4_method_1_code
def yX2_init : MethodName := ⟨RX2, "<init>", "()V"⟩
abbrev cX2_append : ByteArray := prog_4_method_2_code
def yX2_append : MethodName := ⟨RX2, "append", "(II)I"⟩
abbrev cX2_forgetReturns : ByteArray := prog_4_method_3_code
def yX2_forgetReturns : MethodName := ⟨RX2, "forgetReturns", "()V"⟩
abbrev cX2_placeBehindReturn : ByteArray := prog_4_method_4_code
def yX2_placeBehindReturn : MethodName := ⟨RX2, "placeBehindReturn", "(I)I"⟩
def RX3 : String := "Canticle$Search"
def TX3 : u_T := fun k => match k with
  | 0 => ("Canticle$Search", "ledger", "LCanticle$Ledger;", true)
  | 1 => ("Canticle$Search", "reckoner", "LCanticle$Reckoner;", true)
  | 2 => ("Canticle$Search", "costs", "[I", true)
  | 3 => ("Canticle$Search", "choices", "[[I", true)
  | 4 => ("Canticle$Search", "least", "[I", false)
  | _ => ("Canticle$Search", "leastBehind", "[I", false)
def tyX3 : Nat → FieldType := fun k => match k with
  | 0 => .object "Canticle$Ledger"
  | 1 => .object "Canticle$Reckoner"
  | 2 => .array .int
  | 3 => .array (.array .int)
  | 4 => .array .int
  | _ => .array .int
abbrev wsX30 : List Cond := u_ws RX3 TX3 6
theorem nmX3 : ∀ a, a < 6 → ∀ b, b < 6 → a ≠ b → (TX3 a).2.1 ≠ (TX3 b).2.1 := by decide +kernel
theorem tyX3_ok : ∀ k, k < 6 → parseFieldDescriptor (TX3 k).2.2.1 = some (tyX3 k) := by decide +kernel
abbrev cX3_init : ByteArray := prog_5_method_1_code
def yX3_init : MethodName := ⟨RX3, "<init>", "(LCanticle$Ledger;LCanticle$Reckoner;)V"⟩
abbrev cX3_choose : ByteArray := prog_5_method_2_code
def yX3_choose : MethodName := ⟨RX3, "choose", "(II)V"⟩
abbrev cX3_choiceAt : ByteArray := prog_5_method_3_code
def yX3_choiceAt : MethodName := ⟨RX3, "choiceAt", "(II)I"⟩
abbrev cX3_stateBehind : ByteArray := prog_5_method_4_code
def yX3_stateBehind : MethodName := ⟨RX3, "stateBehind", "(III)I"⟩
abbrev cX3_placesAt : ByteArray := prog_5_method_5_code
def yX3_placesAt : MethodName := ⟨RX3, "placesAt", "(I)I"⟩
abbrev cX3_statesAt : ByteArray := prog_5_method_6_code
def yX3_statesAt : MethodName := ⟨RX3, "statesAt", "(I)I"⟩
abbrev cX3_fillCosts : ByteArray := prog_5_method_7_code
def yX3_fillCosts : MethodName := ⟨RX3, "fillCosts", "(II)V"⟩
abbrev cX3_keyOf : ByteArray := prog_5_method_8_code
def yX3_keyOf : MethodName := ⟨RX3, "keyOf", "(II)I"⟩
abbrev cX3_chooseAt : ByteArray := prog_5_method_9_code
def yX3_chooseAt : MethodName := ⟨RX3, "chooseAt", "(I)V"⟩
def RX4 : String := "Canticle$Tally"
def TX4 : u_T := fun k => match k with
  | 0 => ("Canticle$Tally", "keys", "[I", true)
  | 1 => ("Canticle$Tally", "counts", "[I", true)
  | _ => ("Canticle$Tally", "size", "I", false)
def tyX4 : Nat → FieldType := fun k => match k with
  | 0 => .array .int
  | 1 => .array .int
  | _ => .int
abbrev wsX40 : List Cond := u_ws RX4 TX4 3
theorem nmX4 : ∀ a, a < 3 → ∀ b, b < 3 → a ≠ b → (TX4 a).2.1 ≠ (TX4 b).2.1 := by decide +kernel
theorem tyX4_ok : ∀ k, k < 3 → parseFieldDescriptor (TX4 k).2.2.1 = some (tyX4 k) := by decide +kernel
abbrev cX4_init : ByteArray := prog_6_method_1_code
def yX4_init : MethodName := ⟨RX4, "<init>", "()V"⟩
abbrev cX4_keysBelow : ByteArray := prog_6_method_2_code
def yX4_keysBelow : MethodName := ⟨RX4, "keysBelow", "(I)I"⟩
abbrev cX4_standsAt : ByteArray := prog_6_method_3_code
def yX4_standsAt : MethodName := ⟨RX4, "standsAt", "(II)Z"⟩
abbrev cX4_numberOf : ByteArray := prog_6_method_4_code
def yX4_numberOf : MethodName := ⟨RX4, "numberOf", "(I)I"⟩
abbrev cX4_raise : ByteArray := prog_6_method_5_code
def yX4_raise : MethodName := ⟨RX4, "raise", "(II)Z"⟩
abbrev cX4_lower : ByteArray := prog_6_method_6_code
def yX4_lower : MethodName := ⟨RX4, "lower", "(II)Z"⟩
abbrev cX4_removeAt : ByteArray := prog_6_method_7_code
def yX4_removeAt : MethodName := ⟨RX4, "removeAt", "(I)V"⟩
def RX5 : String := "Canticle"
def TX5 : u_T := fun k => match k with
  | 0 => ("Canticle", "ledger", "LCanticle$Ledger;", true)
  | 1 => ("Canticle", "reckoner", "LCanticle$Reckoner;", true)
  | 2 => ("Canticle", "search", "LCanticle$Search;", true)
  | 3 => ("Canticle", "script", "LCanticle$Script;", true)
  | 4 => ("Canticle", "doomed", "[Z", true)
  | 5 => ("Canticle", "sentence", "[I", true)
  | 6 => ("Canticle", "length", "I", false)
  | 7 => ("Canticle", "luck", "I", false)
  | 8 => ("Canticle", "draws", "I", false)
  | _ => ("Canticle", "ended", "Z", false)
def tyX5 : Nat → FieldType := fun k => match k with
  | 0 => .object "Canticle$Ledger"
  | 1 => .object "Canticle$Reckoner"
  | 2 => .object "Canticle$Search"
  | 3 => .object "Canticle$Script"
  | 4 => .array .boolean
  | 5 => .array .int
  | 6 => .int
  | 7 => .int
  | 8 => .int
  | _ => .boolean
abbrev wsX50 : List Cond := u_ws RX5 TX5 10
theorem nmX5 : ∀ a, a < 10 → ∀ b, b < 10 → a ≠ b → (TX5 a).2.1 ≠ (TX5 b).2.1 := by decide +kernel
theorem tyX5_ok : ∀ k, k < 10 → parseFieldDescriptor (TX5 k).2.2.1 = some (tyX5 k) := by decide +kernel
abbrev cX5_init : ByteArray := prog_1_method_1_code
def yX5_init : MethodName := ⟨RX5, "<init>", "()V"⟩
abbrev cX5_addWord : ByteArray := prog_1_method_2_code
def yX5_addWord : MethodName := ⟨RX5, "addWord", "()I"⟩
abbrev cX5_setOrder : ByteArray := prog_1_method_3_code
def yX5_setOrder : MethodName := ⟨RX5, "setOrder", "(I)I"⟩
abbrev cX5_say : ByteArray := prog_1_method_4_code
def yX5_say : MethodName := ⟨RX5, "say", "(I)I"⟩
abbrev cX5_hush : ByteArray := prog_1_method_5_code
def yX5_hush : MethodName := ⟨RX5, "hush", "()I"⟩
abbrev cX5_learn : ByteArray := prog_1_method_6_code
def yX5_learn : MethodName := ⟨RX5, "learn", "(I)I"⟩
abbrev cX5_unlearn : ByteArray := prog_1_method_7_code
def yX5_unlearn : MethodName := ⟨RX5, "unlearn", "()I"⟩
abbrev cX5_length : ByteArray := prog_1_method_10_code
def yX5_length : MethodName := ⟨RX5, "length", "()I"⟩
abbrev cX5_wordAt : ByteArray := prog_1_method_11_code
def yX5_wordAt : MethodName := ⟨RX5, "wordAt", "(I)I"⟩
abbrev cX5_entries : ByteArray := prog_1_method_12_code
def yX5_entries : MethodName := ⟨RX5, "entries", "(I)I"⟩
abbrev cX5_ofContext : ByteArray := prog_1_method_15_code
def yX5_ofContext : MethodName := ⟨RX5, "ofContext", "(II)I"⟩
abbrev cX5_prune : ByteArray := prog_1_method_16_code
def yX5_prune : MethodName := ⟨RX5, "prune", "(II)I"⟩
abbrev cX5_setWay : ByteArray := prog_1_method_18_code
def yX5_setWay : MethodName := ⟨RX5, "setWay", "(II)I"⟩
abbrev cX5_chance : ByteArray := prog_1_method_19_code
def yX5_chance : MethodName := ⟨RX5, "chance", "(I)I"⟩
abbrev cX5_ranked : ByteArray := prog_1_method_20_code
def yX5_ranked : MethodName := ⟨RX5, "ranked", "(I)I"⟩
abbrev cX5_costOf : ByteArray := prog_1_method_21_code
def yX5_costOf : MethodName := ⟨RX5, "costOf", "(I)I"⟩
abbrev cX5_score : ByteArray := prog_1_method_22_code
def yX5_score : MethodName := ⟨RX5, "score", "()I"⟩
abbrev cX5_meanCost : ByteArray := prog_1_method_23_code
def yX5_meanCost : MethodName := ⟨RX5, "meanCost", "()D"⟩
abbrev cX5_complete : ByteArray := prog_1_method_24_code
def yX5_complete : MethodName := ⟨RX5, "complete", "(I)I"⟩
abbrev cX5_addStep : ByteArray := prog_1_method_26_code
def yX5_addStep : MethodName := ⟨RX5, "addStep", "(II)I"⟩
abbrev cX5_runScript : ByteArray := prog_1_method_28_code
def yX5_runScript : MethodName := ⟨RX5, "runScript", "()I"⟩
abbrev cX5_hasEnded : ByteArray := prog_1_method_29_code
def yX5_hasEnded : MethodName := ⟨RX5, "hasEnded", "()Z"⟩
abbrev cX5_scoreLearned : ByteArray := prog_1_method_32_code
def yX5_scoreLearned : MethodName := ⟨RX5, "scoreLearned", "(I)I"⟩
abbrev cX5_scoreBy : ByteArray := prog_1_method_33_code
def yX5_scoreBy : MethodName := ⟨RX5, "scoreBy", "(II)I"⟩
abbrev cX5_wouldDraw : ByteArray := prog_1_method_34_code
def yX5_wouldDraw : MethodName := ⟨RX5, "wouldDraw", "()I"⟩
abbrev cX5_digest : ByteArray := prog_1_method_35_code
def yX5_digest : MethodName := ⟨RX5, "digest", "()J"⟩
abbrev cX5_isWord : ByteArray := prog_1_method_36_code
def yX5_isWord : MethodName := ⟨RX5, "isWord", "(I)Z"⟩
abbrev cX5_isOrder : ByteArray := prog_1_method_37_code
def yX5_isOrder : MethodName := ⟨RX5, "isOrder", "(I)Z"⟩
abbrev cX5_isWay : ByteArray := prog_1_method_38_code
def yX5_isWay : MethodName := ⟨RX5, "isWay", "(II)Z"⟩
abbrev cX5_isStep : ByteArray := prog_1_method_39_code
def yX5_isStep : MethodName := ⟨RX5, "isStep", "(II)Z"⟩
abbrev cX5_append : ByteArray := prog_1_method_40_code
def yX5_append : MethodName := ⟨RX5, "append", "(I)V"⟩
abbrev cX5_digitAt : ByteArray := prog_1_method_41_code
def yX5_digitAt : MethodName := ⟨RX5, "digitAt", "(I)I"⟩
abbrev cX5_keyUpTo : ByteArray := prog_1_method_42_code
def yX5_keyUpTo : MethodName := ⟨RX5, "keyUpTo", "(II)I"⟩
abbrev cX5_addSentence : ByteArray := prog_1_method_43_code
def yX5_addSentence : MethodName := ⟨RX5, "addSentence", "(I)V"⟩
abbrev cX5_takeSentence : ByteArray := prog_1_method_44_code
def yX5_takeSentence : MethodName := ⟨RX5, "takeSentence", "(I)I"⟩
abbrev cX5_canTakeSentence : ByteArray := prog_1_method_45_code
def yX5_canTakeSentence : MethodName := ⟨RX5, "canTakeSentence", "()Z"⟩
abbrev cX5_timesInSentence : ByteArray := prog_1_method_46_code
def yX5_timesInSentence : MethodName := ⟨RX5, "timesInSentence", "(II)I"⟩
abbrev cX5_partOf : ByteArray := prog_1_method_47_code
def yX5_partOf : MethodName := ⟨RX5, "partOf", "(III)I"⟩
abbrev cX5_totalBehind : ByteArray := prog_1_method_48_code
def yX5_totalBehind : MethodName := ⟨RX5, "totalBehind", "(II)I"⟩
abbrev cX5_dropDoomed : ByteArray := prog_1_method_50_code
def yX5_dropDoomed : MethodName := ⟨RX5, "dropDoomed", "(I)I"⟩
abbrev cX5_cost : ByteArray := prog_1_method_51_code
def yX5_cost : MethodName := ⟨RX5, "cost", "(I)I"⟩
abbrev cX5_sumOfCosts : ByteArray := prog_1_method_52_code
def yX5_sumOfCosts : MethodName := ⟨RX5, "sumOfCosts", "()I"⟩
abbrev cX5_reckonBehindSentence : ByteArray := prog_1_method_53_code
def yX5_reckonBehindSentence : MethodName := ⟨RX5, "reckonBehindSentence", "()V"⟩
abbrev cX5_luckBehind : ByteArray := prog_1_method_54_code
def yX5_luckBehind : MethodName := ⟨RX5, "luckBehind", "(I)I"⟩
abbrev cX5_allOutcomes : ByteArray := prog_1_method_55_code
def yX5_allOutcomes : MethodName := ⟨RX5, "allOutcomes", "()I"⟩
abbrev cX5_draw : ByteArray := prog_1_method_56_code
def yX5_draw : MethodName := ⟨RX5, "draw", "(I)I"⟩
abbrev cX5_takeByStep : ByteArray := prog_1_method_57_code
def yX5_takeByStep : MethodName := ⟨RX5, "takeByStep", "(II)V"⟩
abbrev cX5_outcomeOf : ByteArray := prog_1_method_58_code
def yX5_outcomeOf : MethodName := ⟨RX5, "outcomeOf", "(II)I"⟩
abbrev cX5_mix : ByteArray := prog_1_method_59_code
def yX5_mix : MethodName := ⟨RX5, "mix", "(JJ)J"⟩
abbrev cX5_mixEntries : ByteArray := prog_1_method_60_code
def yX5_mixEntries : MethodName := ⟨RX5, "mixEntries", "(JI)J"⟩
abbrev cX5_mixChances : ByteArray := prog_1_method_61_code
def yX5_mixChances : MethodName := ⟨RX5, "mixChances", "(J)J"⟩
def RX6 : String := "CanticleLaw$Own"
def TX6 : u_T := fun k => match k with
  | 0 => ("CanticleLaw$Own", "words", "I", true)
  | 1 => ("CanticleLaw$Own", "order", "I", true)
  | 2 => ("CanticleLaw$Own", "rows", "[[I", false)
  | _ => ("CanticleLaw$Own", "times", "[I", false)
def tyX6 : Nat → FieldType := fun k => match k with
  | 0 => .int
  | 1 => .int
  | 2 => .array (.array .int)
  | _ => .array .int
abbrev wsX60 : List Cond := u_ws RX6 TX6 4
theorem nmX6 : ∀ a, a < 4 → ∀ b, b < 4 → a ≠ b → (TX6 a).2.1 ≠ (TX6 b).2.1 := by decide +kernel
theorem tyX6_ok : ∀ k, k < 4 → parseFieldDescriptor (TX6 k).2.2.1 = some (tyX6 k) := by decide +kernel
abbrev cX6_init : ByteArray := prog_8_method_1_code
def yX6_init : MethodName := ⟨RX6, "<init>", "(II)V"⟩
abbrev cX6_row : ByteArray := prog_8_method_2_code
def yX6_row : MethodName := ⟨RX6, "row", "([IIII)[I"⟩
abbrev cX6_find : ByteArray := prog_8_method_3_code
def yX6_find : MethodName := ⟨RX6, "find", "([I)I"⟩
abbrev cX6_isSame : ByteArray := prog_8_method_4_code
def yX6_isSame : MethodName := ⟨RX6, "isSame", "([I[I)Z"⟩
abbrev cX6_add : ByteArray := prog_8_method_5_code
def yX6_add : MethodName := ⟨RX6, "add", "([II)V"⟩
abbrev cX6_learn : ByteArray := prog_8_method_6_code
def yX6_learn : MethodName := ⟨RX6, "learn", "([III)V"⟩
def RX7 : String := "CanticleModel"
def TX7 : u_T := fun k => match k with
  | _ => ("", "", "", false)
def tyX7 : Nat → FieldType := fun k => match k with
  | _ => .int
abbrev wsX70 : List Cond := u_ws RX7 TX7 0
theorem nmX7 : ∀ a, a < 0 → ∀ b, b < 0 → a ≠ b → (TX7 a).2.1 ≠ (TX7 b).2.1 := by decide +kernel
theorem tyX7_ok : ∀ k, k < 0 → parseFieldDescriptor (TX7 k).2.2.1 = some (tyX7 k) := by decide +kernel
def RJx145de : String := "java/io/Serializable"
def TJx145de : u_T := fun k => match k with
  | _ => ("", "", "", false)
def tyJx145de : Nat → FieldType := fun k => match k with
  | _ => .int
abbrev wsJx145de0 : List Cond := u_ws RJx145de TJx145de 0
theorem nmJx145de : ∀ a, a < 0 → ∀ b, b < 0 → a ≠ b → (TJx145de a).2.1 ≠ (TJx145de b).2.1 := by decide +kernel
theorem tyJx145de_ok : ∀ k, k < 0 → parseFieldDescriptor (TJx145de k).2.2.1 = some (tyJx145de k) := by decide +kernel
def RJ9 : String := "java/lang/Math"
def TJ9 : u_T := fun k => match k with
  | _ => ("", "", "", false)
def tyJ9 : Nat → FieldType := fun k => match k with
  | _ => .int
abbrev wsJ90 : List Cond := u_ws RJ9 TJ9 0
theorem nmJ9 : ∀ a, a < 0 → ∀ b, b < 0 → a ≠ b → (TJ9 a).2.1 ≠ (TJ9 b).2.1 := by decide +kernel
theorem tyJ9_ok : ∀ k, k < 0 → parseFieldDescriptor (TJ9 k).2.2.1 = some (tyJ9 k) := by decide +kernel
abbrev cJ9_max_7cf53 : ByteArray := prog_14_method_65_code
def yJ9_max_7cf53 : MethodName := ⟨RJ9, "max", "(II)I"⟩
abbrev cJ9_max_f86c9 : ByteArray := prog_14_method_66_code
def yJ9_max_f86c9 : MethodName := ⟨RJ9, "max", "(JJ)J"⟩
abbrev cJ9_min_7cf53 : ByteArray := prog_14_method_69_code
def yJ9_min_7cf53 : MethodName := ⟨RJ9, "min", "(II)I"⟩
def RJ0 : String := "java/lang/String"
def TJ0 : u_T := fun k => match k with
  | _ => ("", "", "", false)
def tyJ0 : Nat → FieldType := fun k => match k with
  | _ => .int
abbrev wsJ00 : List Cond := u_ws RJ0 TJ0 0
theorem nmJ0 : ∀ a, a < 0 → ∀ b, b < 0 → a ≠ b → (TJ0 a).2.1 ≠ (TJ0 b).2.1 := by decide +kernel
theorem tyJ0_ok : ∀ k, k < 0 → parseFieldDescriptor (TJ0 k).2.2.1 = some (tyJ0 k) := by decide +kernel
def RJ10 : String := "java/lang/System"
def TJ10 : u_T := fun k => match k with
  | _ => ("", "", "", false)
def tyJ10 : Nat → FieldType := fun k => match k with
  | _ => .int
abbrev wsJ100 : List Cond := u_ws RJ10 TJ10 0
theorem nmJ10 : ∀ a, a < 0 → ∀ b, b < 0 → a ≠ b → (TJ10 a).2.1 ≠ (TJ10 b).2.1 := by decide +kernel
theorem tyJ10_ok : ∀ k, k < 0 → parseFieldDescriptor (TJ10 k).2.2.1 = some (tyJ10 k) := by decide +kernel
def RJ7 : String := "java/util/Arrays"
def TJ7 : u_T := fun k => match k with
  | _ => ("", "", "", false)
def tyJ7 : Nat → FieldType := fun k => match k with
  | _ => .int
abbrev wsJ70 : List Cond := u_ws RJ7 TJ7 0
theorem nmJ7 : ∀ a, a < 0 → ∀ b, b < 0 → a ≠ b → (TJ7 a).2.1 ≠ (TJ7 b).2.1 := by decide +kernel
theorem tyJ7_ok : ∀ k, k < 0 → parseFieldDescriptor (TJ7 k).2.2.1 = some (tyJ7 k) := by decide +kernel
abbrev cJ7_fill_53178 : ByteArray := prog_19_method_103_code
def yJ7_fill_53178 : MethodName := ⟨RJ7, "fill", "([II)V"⟩
def RL : String := "CanticleLaw"
abbrev cL_below : ByteArray := method_2_code
def yL_below : MethodName := ⟨RL, "below", "(II)I"⟩
abbrev cL_cell : ByteArray := method_3_code
def yL_cell : MethodName := ⟨RL, "cell", "([II)I"⟩
abbrev cL_build : ByteArray := method_4_code
def yL_build : MethodName := ⟨RL, "build", "(LCanticle;[I)LCanticleLaw$Own;"⟩
abbrev cL_sentence : ByteArray := method_5_code
def yL_sentence : MethodName := ⟨RL, "sentence", "(LCanticle;[III)[I"⟩
abbrev cL_law : ByteArray := code
def yL_law : MethodName := ⟨RL, "law", "([I)Z"⟩
abbrev vwCl : List vw_C := [(RX0, TX0, 4), (RX1, TX1, 7), (RX2, TX2, 4), (RX3, TX3, 6), (RX4, TX4, 3), (RX5, TX5, 10), (RX6, TX6, 4)]
end
section
def Wl_0 : List Cond := [Cond.classLink RL 25 RX5, Cond.instantiable RX5 10, Cond.initialized RX5, Cond.fieldLink RL 55 "CanticleLaw$Own" "words" "I", Cond.constant RL 66 (1000001), Cond.constant RL 73 (1000000), Cond.fieldLink RL 74 "CanticleLaw$Own" "order" "I", Cond.methodLink RL 50 yX5_init, Cond.instanceMethod yX5_init, Cond.code yX5_init cX5_init 1 none, Cond.methodLink RX5 1 objectInit, Cond.instanceMethod objectInit, Cond.code objectInit ⟨#[0xb1]⟩ 1 none, Cond.classLink RX5 7 RX0, Cond.instantiable RX0 4, Cond.initialized RX0, Cond.fieldLink RX5 10 "Canticle" "ledger" "LCanticle$Ledger;", Cond.classLink RX5 16 RX1, Cond.instantiable RX1 7, Cond.initialized RX1, Cond.fieldLink RX5 21 "Canticle" "reckoner" "LCanticle$Reckoner;", Cond.classLink RX5 25 RX3, Cond.instantiable RX3 6, Cond.initialized RX3]
def Wl_1 : List Cond := [Cond.fieldLink RX5 30 "Canticle" "search" "LCanticle$Search;", Cond.classLink RX5 34 RX2, Cond.instantiable RX2 4, Cond.initialized RX2, Cond.fieldLink RX5 37 "Canticle" "script" "LCanticle$Script;", Cond.arrayClass .boolean, Cond.fieldLink RX5 43 "Canticle" "doomed" "[Z", Cond.arrayClass .int, Cond.fieldLink RX5 47 "Canticle" "sentence" "[I", Cond.fieldLink RX5 51 "Canticle" "length" "I", Cond.fieldLink RX5 55 "Canticle" "luck" "I", Cond.fieldLink RX5 58 "Canticle" "draws" "I", Cond.fieldLink RX5 61 "Canticle" "ended" "Z", Cond.methodLink RX5 9 yX0_init, Cond.instanceMethod yX0_init, Cond.code yX0_init cX0_init 2 none, Cond.methodLink RX0 3 objectInit, Cond.fieldLink RX0 9 "Canticle$Ledger" "words" "I", Cond.fieldLink RX0 15 "Canticle$Ledger" "order" "I", Cond.classLink RX0 18 RX4, Cond.fieldLink RX0 20 "Canticle$Ledger" "counted" "[LCanticle$Tally;", Cond.fieldLink RX0 24 "Canticle$Ledger" "varied" "[LCanticle$Tally;", Cond.instantiable RX4 3, Cond.initialized RX4]
def Wl_2 : List Cond := [Cond.instanceMethod yX4_init, Cond.code yX4_init cX4_init 1 none, Cond.methodLink RX4 1 objectInit, Cond.fieldLink RX4 9 "Canticle$Tally" "keys" "[I", Cond.fieldLink RX4 13 "Canticle$Tally" "counts" "[I", Cond.fieldLink RX4 16 "Canticle$Tally" "size" "I", Cond.methodLink RX5 18 yX1_init, Cond.instanceMethod yX1_init, Cond.code yX1_init cX1_init 2 none, Cond.methodLink RX1 3 objectInit, Cond.fieldLink RX1 9 "Canticle$Reckoner" "way" "I", Cond.fieldLink RX1 15 "Canticle$Reckoner" "number" "I", Cond.fieldLink RX1 18 "Canticle$Reckoner" "chances" "[I", Cond.fieldLink RX1 22 "Canticle$Reckoner" "own" "[I", Cond.fieldLink RX1 25 "Canticle$Reckoner" "sum" "J", Cond.fieldLink RX1 29 "Canticle$Reckoner" "kinds" "I", Cond.fieldLink RX1 32 "Canticle$Reckoner" "ledger" "LCanticle$Ledger;", Cond.methodLink RX5 27 yX3_init, Cond.instanceMethod yX3_init, Cond.code yX3_init cX3_init 3 none, Cond.methodLink RX3 3 objectInit, Cond.fieldLink RX3 11 "Canticle$Search" "costs" "[I", Cond.classLink RX3 15 "[[I", Cond.fieldLink RX3 17 "Canticle$Search" "choices" "[[I"]
def Wl_3 : List Cond := [Cond.fieldLink RX3 20 "Canticle$Search" "least" "[I", Cond.fieldLink RX3 23 "Canticle$Search" "leastBehind" "[I", Cond.fieldLink RX3 26 "Canticle$Search" "ledger" "LCanticle$Ledger;", Cond.fieldLink RX3 30 "Canticle$Search" "reckoner" "LCanticle$Reckoner;", Cond.instanceMethod yX2_init, Cond.code yX2_init cX2_init 1 none, Cond.methodLink RX2 3 objectInit, Cond.fieldLink RX2 9 "Canticle$Script" "codes" "[I", Cond.fieldLink RX2 15 "Canticle$Script" "numbers" "[I", Cond.fieldLink RX2 18 "Canticle$Script" "returns" "[I", Cond.fieldLink RX2 21 "Canticle$Script" "size" "I", Cond.methodLink RL 51 yL_build, Cond.static yL_build, Cond.initialized RL, Cond.code yL_build cL_build 8 (some (.object "CanticleLaw$Own")), Cond.classLink RL 19 RX6, Cond.instantiable RX6 4, Cond.initialized RX6, Cond.methodLink RL 9 yL_cell, Cond.static yL_cell, Cond.code yL_cell cL_cell 2 (some .int), Cond.constant RL 8 (790386105), Cond.methodLink RL 15 yL_below, Cond.static yL_below]
def Wl_4 : List Cond := [Cond.code yL_below cL_below 2 (some .int), Cond.constant RL 7 (2147483647), Cond.methodLink RL 21 yX6_init, Cond.instanceMethod yX6_init, Cond.code yX6_init cX6_init 3 none, Cond.methodLink RX6 1 objectInit, Cond.classLink RX6 7 "[I", Cond.fieldLink RX6 9 "CanticleLaw$Own" "rows" "[[I", Cond.fieldLink RX6 15 "CanticleLaw$Own" "times" "[I", Cond.fieldLink RX6 18 "CanticleLaw$Own" "words" "I", Cond.fieldLink RX6 22 "CanticleLaw$Own" "order" "I", Cond.methodLink RL 24 yX5_addWord, Cond.instanceMethod yX5_addWord, Cond.selects RX5 yX5_addWord yX5_addWord, Cond.code yX5_addWord cX5_addWord 1 (some .int), Cond.classLink RX5 68 "java/lang/IllegalStateException", Cond.initialized "java/lang/IllegalStateException", Cond.fieldLink RX5 65 "Canticle$Ledger" "words" "I", Cond.methodLink RX5 75 yX0_forgetAll, Cond.instanceMethod yX0_forgetAll, Cond.selects RX0 yX0_forgetAll yX0_forgetAll, Cond.code yX0_forgetAll cX0_forgetAll 2 none, Cond.fieldLink RX0 59 "Canticle$Tally" "size" "I", Cond.methodLink RX0 37 yX0_countsOf]
def Wl_5 : List Cond := [Cond.instanceMethod yX0_countsOf, Cond.selects RX0 yX0_countsOf yX0_countsOf, Cond.code yX0_countsOf cX0_countsOf 2 (some (.object "Canticle$Tally")), Cond.methodLink RX0 28 Lib.Math.min.name, Cond.static Lib.Math.min.name, Cond.initialized "java/lang/Math", Cond.code Lib.Math.min.name Lib.Math.min.code 2 (some .int), Cond.methodLink RX0 34 Lib.Math.max.name, Cond.static Lib.Math.max.name, Cond.code Lib.Math.max.name Lib.Math.max.code 2 (some .int), Cond.methodLink RX0 45 yX0_varietyOf, Cond.instanceMethod yX0_varietyOf, Cond.selects RX0 yX0_varietyOf yX0_varietyOf, Cond.code yX0_varietyOf cX0_varietyOf 2 (some (.object "Canticle$Tally")), Cond.methodLink RL 30 yX5_setOrder, Cond.instanceMethod yX5_setOrder, Cond.selects RX5 yX5_setOrder yX5_setOrder, Cond.code yX5_setOrder cX5_setOrder 3 (some .int), Cond.classLink RX5 78 "java/lang/IllegalArgumentException", Cond.initialized "java/lang/IllegalArgumentException", Cond.fieldLink RX5 83 "Canticle$Ledger" "order" "I", Cond.methodLink RL 34 yL_sentence, Cond.static yL_sentence, Cond.code yL_sentence cL_sentence 6 (some (.array .int))]
def Wl_6 : List Cond := [Cond.methodLink RL 44 yX5_hush, Cond.instanceMethod yX5_hush, Cond.selects RX5 yX5_hush yX5_hush, Cond.code yX5_hush cX5_hush 2 (some .int), Cond.methodLink RL 47 yX5_say, Cond.instanceMethod yX5_say, Cond.selects RX5 yX5_say yX5_say, Cond.code yX5_say cX5_say 2 (some .int), Cond.classLink RX5 90 "java/lang/IndexOutOfBoundsException", Cond.initialized "java/lang/IndexOutOfBoundsException", Cond.methodLink RX5 86 yX5_isWord, Cond.instanceMethod yX5_isWord, Cond.selects RX5 yX5_isWord yX5_isWord, Cond.code yX5_isWord cX5_isWord 2 (some .boolean), Cond.methodLink RX5 97 yX5_append, Cond.instanceMethod yX5_append, Cond.selects RX5 yX5_append yX5_append, Cond.code yX5_append cX5_append 2 none, Cond.methodLink RL 38 yX5_learn, Cond.instanceMethod yX5_learn, Cond.selects RX5 yX5_learn yX5_learn, Cond.code yX5_learn cX5_learn 2 (some .int), Cond.methodLink RX5 105 yX5_addSentence, Cond.instanceMethod yX5_addSentence]
def Wl_7 : List Cond := [Cond.selects RX5 yX5_addSentence yX5_addSentence, Cond.code yX5_addSentence cX5_addSentence 4 none, Cond.methodLink RX5 202 yX5_keyUpTo, Cond.instanceMethod yX5_keyUpTo, Cond.selects RX5 yX5_keyUpTo yX5_keyUpTo, Cond.code yX5_keyUpTo cX5_keyUpTo 5 (some .int), Cond.methodLink RX5 267 yX5_digitAt, Cond.instanceMethod yX5_digitAt, Cond.selects RX5 yX5_digitAt yX5_digitAt, Cond.code yX5_digitAt cX5_digitAt 2 (some .int), Cond.methodLink RX5 270 yX0_raise, Cond.instanceMethod yX0_raise, Cond.selects RX0 yX0_raise yX0_raise, Cond.code yX0_raise cX0_raise 4 none, Cond.methodLink RX0 41 yX4_raise, Cond.instanceMethod yX4_raise, Cond.selects RX4 yX4_raise yX4_raise, Cond.code yX4_raise cX4_raise 4 (some .boolean), Cond.constant RX4 28 (100000000), Cond.methodLink RX4 29 Lib.Math.min.name, Cond.methodLink RX4 35 arraycopyName, Cond.native arraycopyName, Cond.static arraycopyName, Cond.initialized "java/lang/System"]
def Wl_8 : List Cond := [Cond.methodLink RX4 20 yX4_keysBelow, Cond.instanceMethod yX4_keysBelow, Cond.selects RX4 yX4_keysBelow yX4_keysBelow, Cond.code yX4_keysBelow cX4_keysBelow 4 (some .int), Cond.methodLink RX4 24 yX4_standsAt, Cond.instanceMethod yX4_standsAt, Cond.selects RX4 yX4_standsAt yX4_standsAt, Cond.code yX4_standsAt cX4_standsAt 3 (some .boolean), Cond.methodLink RX5 108 yX0_sizeInAll, Cond.instanceMethod yX0_sizeInAll, Cond.selects RX0 yX0_sizeInAll yX0_sizeInAll, Cond.code yX0_sizeInAll cX0_sizeInAll 3 (some .int), Cond.methodLink RX5 112 yX5_takeSentence, Cond.instanceMethod yX5_takeSentence, Cond.selects RX5 yX5_takeSentence yX5_takeSentence, Cond.code yX5_takeSentence cX5_takeSentence 5 (some .int), Cond.methodLink RX5 274 yX0_lower, Cond.instanceMethod yX0_lower, Cond.selects RX0 yX0_lower yX0_lower, Cond.code yX0_lower cX0_lower 5 (some .boolean), Cond.methodLink RX0 52 yX4_lower, Cond.instanceMethod yX4_lower, Cond.selects RX4 yX4_lower yX4_lower, Cond.code yX4_lower cX4_lower 4 (some .boolean)]
def Wl_9 : List Cond := [Cond.methodLink RX4 41 yX4_removeAt, Cond.instanceMethod yX4_removeAt, Cond.selects RX4 yX4_removeAt yX4_removeAt, Cond.code yX4_removeAt cX4_removeAt 2 none, Cond.methodLink RX0 55 yX0_lowerVariety, Cond.instanceMethod yX0_lowerVariety, Cond.selects RX0 yX0_lowerVariety yX0_lowerVariety, Cond.code yX0_lowerVariety cX0_lowerVariety 3 none, Cond.methodLink RL 41 yX6_learn, Cond.instanceMethod yX6_learn, Cond.selects RX6 yX6_learn yX6_learn, Cond.code yX6_learn cX6_learn 6 none, Cond.methodLink RX6 39 yX6_row, Cond.instanceMethod yX6_row, Cond.selects RX6 yX6_row yX6_row, Cond.code yX6_row cX6_row 8 (some (.array .int)), Cond.methodLink RX6 43 yX6_add, Cond.instanceMethod yX6_add, Cond.selects RX6 yX6_add yX6_add, Cond.code yX6_add cX6_add 6 none, Cond.methodLink RX6 33 arraycopyName, Cond.methodLink RX6 29 yX6_find, Cond.instanceMethod yX6_find, Cond.selects RX6 yX6_find yX6_find]
def Wl_10 : List Cond := [Cond.code yX6_find cX6_find 3 (some .int), Cond.methodLink RX6 25 yX6_isSame, Cond.static yX6_isSame, Cond.code yX6_isSame cX6_isSame 3 (some .boolean), Cond.methodLink RL 59 yX5_setWay, Cond.instanceMethod yX5_setWay, Cond.selects RX5 yX5_setWay yX5_setWay, Cond.code yX5_setWay cX5_setWay 4 (some .int), Cond.fieldLink RX5 175 "Canticle$Reckoner" "way" "I", Cond.fieldLink RX5 178 "Canticle$Reckoner" "number" "I", Cond.methodLink RX5 169 yX5_isWay, Cond.static yX5_isWay, Cond.code yX5_isWay cX5_isWay 2 (some .boolean), Cond.methodLink RL 62 yX5_digest, Cond.instanceMethod yX5_digest, Cond.selects RX5 yX5_digest yX5_digest, Cond.code yX5_digest cX5_digest 4 (some .long), Cond.constantLong RX5 253 (58041), Cond.methodLink RX5 255 yX5_mix, Cond.static yX5_mix, Cond.code yX5_mix cX5_mix 4 (some .long), Cond.constantLong RX5 319 (31), Cond.methodLink RX5 259 yX5_mixEntries, Cond.instanceMethod yX5_mixEntries]
def Wl_11 : List Cond := [Cond.selects RX5 yX5_mixEntries yX5_mixEntries, Cond.code yX5_mixEntries cX5_mixEntries 9 (some .long), Cond.fieldLink RX5 135 "Canticle$Tally" "size" "I", Cond.fieldLink RX5 140 "Canticle$Tally" "keys" "[I", Cond.fieldLink RX5 149 "Canticle$Tally" "counts" "[I", Cond.methodLink RX5 131 yX0_countsOf, Cond.methodLink RX5 143 yX5_partOf, Cond.instanceMethod yX5_partOf, Cond.selects RX5 yX5_partOf yX5_partOf, Cond.code yX5_partOf cX5_partOf 5 (some .int), Cond.fieldLink RX5 284 "Canticle" "POWERS" "[I", Cond.methodLink RX5 154 yX5_totalBehind, Cond.instanceMethod yX5_totalBehind, Cond.selects RX5 yX5_totalBehind yX5_totalBehind, Cond.code yX5_totalBehind cX5_totalBehind 3 (some .int), Cond.fieldLink RX5 291 "Canticle$Reckoner" "sum" "J", Cond.fieldLink RX5 295 "Canticle$Reckoner" "kinds" "I", Cond.methodLink RX5 287 yX1_gather, Cond.instanceMethod yX1_gather, Cond.selects RX1 yX1_gather yX1_gather, Cond.code yX1_gather cX1_gather 6 none, Cond.fieldLink RX1 79 "Canticle$Tally" "size" "I", Cond.fieldLink RX1 82 "Canticle$Tally" "keys" "[I", Cond.fieldLink RX1 85 "Canticle$Tally" "counts" "[I"]
def Wl_12 : List Cond := [Cond.methodLink RX1 42 yJ7_fill_53178, Cond.static yJ7_fill_53178, Cond.initialized RJ7, Cond.code yJ7_fill_53178 cJ7_fill_53178 4 none, Cond.methodLink RX1 73 yX4_keysBelow, Cond.methodLink RX5 263 yX5_mixChances, Cond.instanceMethod yX5_mixChances, Cond.selects RX5 yX5_mixChances yX5_mixChances, Cond.code yX5_mixChances cX5_mixChances 6 (some .long), Cond.fieldLink RX5 186 "Canticle$Reckoner" "chances" "[I", Cond.methodLink RX5 183 yX5_reckonBehindSentence, Cond.instanceMethod yX5_reckonBehindSentence, Cond.selects RX5 yX5_reckonBehindSentence yX5_reckonBehindSentence, Cond.code yX5_reckonBehindSentence cX5_reckonBehindSentence 1 none, Cond.methodLink RX5 298 yX1_reckon, Cond.instanceMethod yX1_reckon, Cond.selects RX1 yX1_reckon yX1_reckon, Cond.code yX1_reckon cX1_reckon 4 none, Cond.constant RX1 36 (1000000), Cond.fieldLink RX1 37 "Canticle$Ledger" "words" "I", Cond.methodLink RX1 51 yX1_refine, Cond.instanceMethod yX1_refine, Cond.selects RX1 yX1_refine yX1_refine, Cond.code yX1_refine cX1_refine 5 none]
def Wl_13 : List Cond := [Cond.fieldLink RX1 55 "Canticle$Ledger" "order" "I", Cond.methodLink RX1 58 yX0_varietyOf, Cond.methodLink RX1 62 yX0_countsOf, Cond.methodLink RX1 65 yX1_gather, Cond.methodLink RX1 69 yX1_blend, Cond.instanceMethod yX1_blend, Cond.selects RX1 yX1_blend yX1_blend, Cond.code yX1_blend cX1_blend 7 (some .long), Cond.constantLong RX1 88 (1000), Cond.constantLong RX1 90 (1000000), Cond.methodLink RX1 92 Lib.MathLoose.max_long.x, Cond.static Lib.MathLoose.max_long.x, Cond.code Lib.MathLoose.max_long.x Lib.MathLoose.max_long.code 4 (some .long), Cond.methodLink RX5 191 yX1_withRank, Cond.instanceMethod yX1_withRank, Cond.selects RX1 yX1_withRank yX1_withRank, Cond.code yX1_withRank cX1_withRank 3 (some .int), Cond.methodLink RX1 101 yX1_rankOf, Cond.instanceMethod yX1_rankOf, Cond.selects RX1 yX1_rankOf yX1_rankOf, Cond.code yX1_rankOf cX1_rankOf 4 (some .int), Cond.methodLink RX1 97 yX1_isLikelier, Cond.instanceMethod yX1_isLikelier, Cond.selects RX1 yX1_isLikelier yX1_isLikelier]
def Wl_14 : List Cond := [Cond.code yX1_isLikelier cX1_isLikelier 3 (some .boolean), Cond.methodLink RX5 197 yX5_sumOfCosts, Cond.instanceMethod yX5_sumOfCosts, Cond.selects RX5 yX5_sumOfCosts yX5_sumOfCosts, Cond.code yX5_sumOfCosts cX5_sumOfCosts 4 (some .int), Cond.methodLink RX5 194 yX5_cost, Cond.static yX5_cost, Cond.code yX5_cost cX5_cost 4 (some .int), Cond.constant RX5 309 (32768), Cond.constant RX5 163 (1000000), Cond.methodLink RL 67 yX5_ranked, Cond.instanceMethod yX5_ranked, Cond.selects RX5 yX5_ranked yX5_ranked, Cond.code yX5_ranked cX5_ranked 2 (some .int), Cond.methodLink RL 70 yX5_chance, Cond.instanceMethod yX5_chance, Cond.selects RX5 yX5_chance yX5_chance, Cond.code yX5_chance cX5_chance 2 (some .int), Cond.methodLink RL 77 yX5_wouldDraw, Cond.instanceMethod yX5_wouldDraw, Cond.selects RX5 yX5_wouldDraw yX5_wouldDraw, Cond.code yX5_wouldDraw cX5_wouldDraw 1 (some .int), Cond.methodLink RX5 244 yX5_luckBehind, Cond.static yX5_luckBehind]
def Wl_15 : List Cond := [Cond.code yX5_luckBehind cX5_luckBehind 1 (some .int), Cond.methodLink RX5 247 yX5_allOutcomes, Cond.instanceMethod yX5_allOutcomes, Cond.selects RX5 yX5_allOutcomes yX5_allOutcomes, Cond.code yX5_allOutcomes cX5_allOutcomes 1 (some .int), Cond.methodLink RX5 250 yX1_pick, Cond.instanceMethod yX1_pick, Cond.selects RX1 yX1_pick yX1_pick, Cond.code yX1_pick cX1_pick 11 (some .int), Cond.constantLong RX1 104 (10000), Cond.methodLink RL 80 yX5_scoreBy, Cond.instanceMethod yX5_scoreBy, Cond.selects RX5 yX5_scoreBy yX5_scoreBy, Cond.code yX5_scoreBy cX5_scoreBy 6 (some .int), Cond.methodLink RL 83 yX5_score, Cond.instanceMethod yX5_score, Cond.selects RX5 yX5_score yX5_score, Cond.code yX5_score cX5_score 1 (some .int), Cond.methodLink RL 86 yX5_costOf, Cond.instanceMethod yX5_costOf, Cond.selects RX5 yX5_costOf yX5_costOf, Cond.code yX5_costOf cX5_costOf 2 (some .int), Cond.methodLink RL 89 yX5_meanCost, Cond.instanceMethod yX5_meanCost]
def Wl_16 : List Cond := [Cond.selects RX5 yX5_meanCost yX5_meanCost, Cond.code yX5_meanCost cX5_meanCost 1 (some .double), Cond.methodLink RL 93 yX5_unlearn, Cond.instanceMethod yX5_unlearn, Cond.selects RX5 yX5_unlearn yX5_unlearn, Cond.code yX5_unlearn cX5_unlearn 1 (some .int), Cond.methodLink RX5 118 yX5_canTakeSentence, Cond.instanceMethod yX5_canTakeSentence, Cond.selects RX5 yX5_canTakeSentence yX5_canTakeSentence, Cond.code yX5_canTakeSentence cX5_canTakeSentence 4 (some .boolean), Cond.methodLink RX5 278 yX4_numberOf, Cond.instanceMethod yX4_numberOf, Cond.selects RX4 yX4_numberOf yX4_numberOf, Cond.code yX4_numberOf cX4_numberOf 3 (some .int), Cond.methodLink RX5 281 yX5_timesInSentence, Cond.instanceMethod yX5_timesInSentence, Cond.selects RX5 yX5_timesInSentence yX5_timesInSentence, Cond.code yX5_timesInSentence cX5_timesInSentence 5 (some .int), Cond.methodLink RL 96 yX5_scoreLearned, Cond.instanceMethod yX5_scoreLearned, Cond.selects RX5 yX5_scoreLearned yX5_scoreLearned, Cond.code yX5_scoreLearned cX5_scoreLearned 3 (some .int), Cond.methodLink RL 99 yX5_complete, Cond.instanceMethod yX5_complete]
def Wl_17 : List Cond := [Cond.selects RX5 yX5_complete yX5_complete, Cond.code yX5_complete cX5_complete 6 (some .int), Cond.methodLink RX5 205 yX3_choose, Cond.instanceMethod yX3_choose, Cond.selects RX3 yX3_choose yX3_choose, Cond.code yX3_choose cX3_choose 5 none, Cond.fieldLink RX3 42 "Canticle$Ledger" "words" "I", Cond.fieldLink RX3 48 "Canticle$Ledger" "order" "I", Cond.methodLink RX3 34 yX3_fillCosts, Cond.instanceMethod yX3_fillCosts, Cond.selects RX3 yX3_fillCosts yX3_fillCosts, Cond.code yX3_fillCosts cX3_fillCosts 8 none, Cond.fieldLink RX3 78 "Canticle$Reckoner" "chances" "[I", Cond.methodLink RX3 61 yX3_placesAt, Cond.instanceMethod yX3_placesAt, Cond.selects RX3 yX3_placesAt yX3_placesAt, Cond.code yX3_placesAt cX3_placesAt 2 (some .int), Cond.methodLink RX3 55 Lib.Math.min.name, Cond.methodLink RX3 38 yX3_statesAt, Cond.instanceMethod yX3_statesAt, Cond.selects RX3 yX3_statesAt yX3_statesAt, Cond.code yX3_statesAt cX3_statesAt 4 (some .int), Cond.methodLink RX3 64 Lib.Math.max.name, Cond.methodLink RX3 70 yX3_keyOf]
def Wl_18 : List Cond := [Cond.instanceMethod yX3_keyOf, Cond.selects RX3 yX3_keyOf yX3_keyOf, Cond.code yX3_keyOf cX3_keyOf 7 (some .int), Cond.methodLink RX3 73 yX1_reckon, Cond.methodLink RX3 51 yX3_chooseAt, Cond.instanceMethod yX3_chooseAt, Cond.selects RX3 yX3_chooseAt yX3_chooseAt, Cond.code yX3_chooseAt cX3_chooseAt 11 none, Cond.methodLink RX5 209 yX3_choiceAt, Cond.instanceMethod yX3_choiceAt, Cond.selects RX3 yX3_choiceAt yX3_choiceAt, Cond.code yX3_choiceAt cX3_choiceAt 3 (some .int), Cond.methodLink RX5 212 yX3_stateBehind, Cond.instanceMethod yX3_stateBehind, Cond.selects RX3 yX3_stateBehind yX3_stateBehind, Cond.code yX3_stateBehind cX3_stateBehind 4 (some .int), Cond.methodLink RL 102 yX5_length, Cond.instanceMethod yX5_length, Cond.selects RX5 yX5_length yX5_length, Cond.code yX5_length cX5_length 1 (some .int), Cond.methodLink RL 105 yX5_wordAt, Cond.instanceMethod yX5_wordAt, Cond.selects RX5 yX5_wordAt yX5_wordAt, Cond.code yX5_wordAt cX5_wordAt 2 (some .int)]
def Wl_19 : List Cond := [Cond.methodLink RL 108 yX5_entries, Cond.instanceMethod yX5_entries, Cond.selects RX5 yX5_entries yX5_entries, Cond.code yX5_entries cX5_entries 2 (some .int), Cond.methodLink RX5 126 yX5_isOrder, Cond.instanceMethod yX5_isOrder, Cond.selects RX5 yX5_isOrder yX5_isOrder, Cond.code yX5_isOrder cX5_isOrder 2 (some .boolean), Cond.methodLink RL 111 yX5_prune, Cond.instanceMethod yX5_prune, Cond.selects RX5 yX5_prune yX5_prune, Cond.code yX5_prune cX5_prune 5 (some .int), Cond.methodLink RX5 160 yX5_dropDoomed, Cond.instanceMethod yX5_dropDoomed, Cond.selects RX5 yX5_dropDoomed yX5_dropDoomed, Cond.code yX5_dropDoomed cX5_dropDoomed 4 (some .int), Cond.methodLink RX5 306 yX0_drop, Cond.instanceMethod yX0_drop, Cond.selects RX0 yX0_drop yX0_drop, Cond.code yX0_drop cX0_drop 5 none, Cond.fieldLink RX0 62 "Canticle$Tally" "keys" "[I", Cond.methodLink RX0 65 yX4_removeAt, Cond.methodLink RL 114 yX5_ofContext, Cond.instanceMethod yX5_ofContext]
def Wl_20 : List Cond := [Cond.selects RX5 yX5_ofContext yX5_ofContext, Cond.code yX5_ofContext cX5_ofContext 3 (some .int), Cond.methodLink RL 117 yX5_addStep, Cond.instanceMethod yX5_addStep, Cond.selects RX5 yX5_addStep yX5_addStep, Cond.code yX5_addStep cX5_addStep 3 (some .int), Cond.fieldLink RX5 222 "Canticle$Script" "size" "I", Cond.methodLink RX5 217 yX5_isStep, Cond.instanceMethod yX5_isStep, Cond.selects RX5 yX5_isStep yX5_isStep, Cond.code yX5_isStep cX5_isStep 3 (some .boolean), Cond.methodLink RX5 225 yX2_append, Cond.instanceMethod yX2_append, Cond.selects RX2 yX2_append yX2_append, Cond.code yX2_append cX2_append 3 (some .int), Cond.methodLink RL 120 yX5_runScript, Cond.instanceMethod yX5_runScript, Cond.selects RX5 yX5_runScript yX5_runScript, Cond.code yX5_runScript cX5_runScript 3 (some .int), Cond.fieldLink RX5 232 "Canticle$Script" "codes" "[I", Cond.fieldLink RX5 238 "Canticle$Script" "numbers" "[I", Cond.methodLink RX5 229 yX2_forgetReturns, Cond.instanceMethod yX2_forgetReturns, Cond.selects RX2 yX2_forgetReturns yX2_forgetReturns]
def Wl_21 : List Cond := [Cond.code yX2_forgetReturns cX2_forgetReturns 1 none, Cond.methodLink RX2 25 yJ7_fill_53178, Cond.methodLink RX5 235 yX2_placeBehindReturn, Cond.instanceMethod yX2_placeBehindReturn, Cond.selects RX2 yX2_placeBehindReturn yX2_placeBehindReturn, Cond.code yX2_placeBehindReturn cX2_placeBehindReturn 2 (some .int), Cond.methodLink RX5 241 yX5_takeByStep, Cond.instanceMethod yX5_takeByStep, Cond.selects RX5 yX5_takeByStep yX5_takeByStep, Cond.code yX5_takeByStep cX5_takeByStep 4 none, Cond.methodLink RX5 310 yX5_outcomeOf, Cond.instanceMethod yX5_outcomeOf, Cond.selects RX5 yX5_outcomeOf yX5_outcomeOf, Cond.code yX5_outcomeOf cX5_outcomeOf 3 (some .int), Cond.methodLink RX5 313 yX1_likeliest, Cond.instanceMethod yX1_likeliest, Cond.selects RX1 yX1_likeliest yX1_likeliest, Cond.code yX1_likeliest cX1_likeliest 4 (some .int), Cond.methodLink RX5 316 yX5_draw, Cond.instanceMethod yX5_draw, Cond.selects RX5 yX5_draw yX5_draw, Cond.code yX5_draw cX5_draw 2 (some .int), Cond.methodLink RL 123 yX5_hasEnded, Cond.instanceMethod yX5_hasEnded]
def Wl_22 : List Cond := [Cond.selects RX5 yX5_hasEnded yX5_hasEnded, Cond.code yX5_hasEnded cX5_hasEnded 1 (some .boolean)]
def Wall : List Cond := Wl_0 ++ (Wl_1 ++ (Wl_2 ++ (Wl_3 ++ (Wl_4 ++ (Wl_5 ++ (Wl_6 ++ (Wl_7 ++ (Wl_8 ++ (Wl_9 ++ (Wl_10 ++ (Wl_11 ++ (Wl_12 ++ (Wl_13 ++ (Wl_14 ++ (Wl_15 ++ (Wl_16 ++ (Wl_17 ++ (Wl_18 ++ (Wl_19 ++ (Wl_20 ++ (Wl_21 ++ (Wl_22 ++ (wsX00 ++ (wsX10 ++ (wsX20 ++ (wsX30 ++ (wsX40 ++ (wsX50 ++ (wsX60)))))))))))))))))))))))))))))
theorem in_Wl_0 : ∀ w ∈ Wl_0, w ∈ Wall := fun w h => (List.mem_append_left _ h)
theorem in_Wl_1 : ∀ w ∈ Wl_1, w ∈ Wall := fun w h => List.mem_append_right _ ((List.mem_append_left _ h))
theorem in_Wl_2 : ∀ w ∈ Wl_2, w ∈ Wall := fun w h => List.mem_append_right _ (List.mem_append_right _ ((List.mem_append_left _ h)))
theorem in_Wl_3 : ∀ w ∈ Wl_3, w ∈ Wall := fun w h => List.mem_append_right _ (List.mem_append_right _ (List.mem_append_right _ ((List.mem_append_left _ h))))
theorem in_Wl_4 : ∀ w ∈ Wl_4, w ∈ Wall := fun w h => List.mem_append_right _ (List.mem_append_right _ (List.mem_append_right _ (List.mem_append_right _ ((List.mem_append_left _ h)))))
theorem in_Wl_5 : ∀ w ∈ Wl_5, w ∈ Wall := fun w h => List.mem_append_right _ (List.mem_append_right _ (List.mem_append_right _ (List.mem_append_right _ (List.mem_append_right _ ((List.mem_append_left _ h))))))
theorem in_Wl_6 : ∀ w ∈ Wl_6, w ∈ Wall := fun w h => List.mem_append_right _ (List.mem_append_right _ (List.mem_append_right _ (List.mem_append_right _ (List.mem_append_right _ (List.mem_append_right _ ((List.mem_append_left _ h)))))))
theorem in_Wl_7 : ∀ w ∈ Wl_7, w ∈ Wall := fun w h => List.mem_append_right _ (List.mem_append_right _ (List.mem_append_right _ (List.mem_append_right _ (List.mem_append_right _ (List.mem_append_right _ (List.mem_append_right _ ((List.mem_append_left _ h))))))))
theorem in_Wl_8 : ∀ w ∈ Wl_8, w ∈ Wall := fun w h => List.mem_append_right _ (List.mem_append_right _ (List.mem_append_right _ (List.mem_append_right _ (List.mem_append_right _ (List.mem_append_right _ (List.mem_append_right _ (List.mem_append_right _ ((List.mem_append_left _ h)))))))))
theorem in_Wl_9 : ∀ w ∈ Wl_9, w ∈ Wall := fun w h => List.mem_append_right _ (List.mem_append_right _ (List.mem_append_right _ (List.mem_append_right _ (List.mem_append_right _ (List.mem_append_right _ (List.mem_append_right _ (List.mem_append_right _ (List.mem_append_right _ ((List.mem_append_left _ h))))))))))
theorem in_Wl_10 : ∀ w ∈ Wl_10, w ∈ Wall := fun w h => List.mem_append_right _ (List.mem_append_right _ (List.mem_append_right _ (List.mem_append_right _ (List.mem_append_right _ (List.mem_append_right _ (List.mem_append_right _ (List.mem_append_right _ (List.mem_append_right _ (List.mem_append_right _ ((List.mem_append_left _ h)))))))))))
theorem in_Wl_11 : ∀ w ∈ Wl_11, w ∈ Wall := fun w h => List.mem_append_right _ (List.mem_append_right _ (List.mem_append_right _ (List.mem_append_right _ (List.mem_append_right _ (List.mem_append_right _ (List.mem_append_right _ (List.mem_append_right _ (List.mem_append_right _ (List.mem_append_right _ (List.mem_append_right _ ((List.mem_append_left _ h))))))))))))
theorem in_Wl_12 : ∀ w ∈ Wl_12, w ∈ Wall := fun w h => List.mem_append_right _ (List.mem_append_right _ (List.mem_append_right _ (List.mem_append_right _ (List.mem_append_right _ (List.mem_append_right _ (List.mem_append_right _ (List.mem_append_right _ (List.mem_append_right _ (List.mem_append_right _ (List.mem_append_right _ (List.mem_append_right _ ((List.mem_append_left _ h)))))))))))))
theorem in_Wl_13 : ∀ w ∈ Wl_13, w ∈ Wall := fun w h => List.mem_append_right _ (List.mem_append_right _ (List.mem_append_right _ (List.mem_append_right _ (List.mem_append_right _ (List.mem_append_right _ (List.mem_append_right _ (List.mem_append_right _ (List.mem_append_right _ (List.mem_append_right _ (List.mem_append_right _ (List.mem_append_right _ (List.mem_append_right _ ((List.mem_append_left _ h))))))))))))))
theorem in_Wl_14 : ∀ w ∈ Wl_14, w ∈ Wall := fun w h => List.mem_append_right _ (List.mem_append_right _ (List.mem_append_right _ (List.mem_append_right _ (List.mem_append_right _ (List.mem_append_right _ (List.mem_append_right _ (List.mem_append_right _ (List.mem_append_right _ (List.mem_append_right _ (List.mem_append_right _ (List.mem_append_right _ (List.mem_append_right _ (List.mem_append_right _ ((List.mem_append_left _ h)))))))))))))))
theorem in_Wl_15 : ∀ w ∈ Wl_15, w ∈ Wall := fun w h => List.mem_append_right _ (List.mem_append_right _ (List.mem_append_right _ (List.mem_append_right _ (List.mem_append_right _ (List.mem_append_right _ (List.mem_append_right _ (List.mem_append_right _ (List.mem_append_right _ (List.mem_append_right _ (List.mem_append_right _ (List.mem_append_right _ (List.mem_append_right _ (List.mem_append_right _ (List.mem_append_right _ ((List.mem_append_left _ h))))))))))))))))
theorem in_Wl_16 : ∀ w ∈ Wl_16, w ∈ Wall := fun w h => List.mem_append_right _ (List.mem_append_right _ (List.mem_append_right _ (List.mem_append_right _ (List.mem_append_right _ (List.mem_append_right _ (List.mem_append_right _ (List.mem_append_right _ (List.mem_append_right _ (List.mem_append_right _ (List.mem_append_right _ (List.mem_append_right _ (List.mem_append_right _ (List.mem_append_right _ (List.mem_append_right _ (List.mem_append_right _ ((List.mem_append_left _ h)))))))))))))))))
theorem in_Wl_17 : ∀ w ∈ Wl_17, w ∈ Wall := fun w h => List.mem_append_right _ (List.mem_append_right _ (List.mem_append_right _ (List.mem_append_right _ (List.mem_append_right _ (List.mem_append_right _ (List.mem_append_right _ (List.mem_append_right _ (List.mem_append_right _ (List.mem_append_right _ (List.mem_append_right _ (List.mem_append_right _ (List.mem_append_right _ (List.mem_append_right _ (List.mem_append_right _ (List.mem_append_right _ (List.mem_append_right _ ((List.mem_append_left _ h))))))))))))))))))
theorem in_Wl_18 : ∀ w ∈ Wl_18, w ∈ Wall := fun w h => List.mem_append_right _ (List.mem_append_right _ (List.mem_append_right _ (List.mem_append_right _ (List.mem_append_right _ (List.mem_append_right _ (List.mem_append_right _ (List.mem_append_right _ (List.mem_append_right _ (List.mem_append_right _ (List.mem_append_right _ (List.mem_append_right _ (List.mem_append_right _ (List.mem_append_right _ (List.mem_append_right _ (List.mem_append_right _ (List.mem_append_right _ (List.mem_append_right _ ((List.mem_append_left _ h)))))))))))))))))))
theorem in_Wl_19 : ∀ w ∈ Wl_19, w ∈ Wall := fun w h => List.mem_append_right _ (List.mem_append_right _ (List.mem_append_right _ (List.mem_append_right _ (List.mem_append_right _ (List.mem_append_right _ (List.mem_append_right _ (List.mem_append_right _ (List.mem_append_right _ (List.mem_append_right _ (List.mem_append_right _ (List.mem_append_right _ (List.mem_append_right _ (List.mem_append_right _ (List.mem_append_right _ (List.mem_append_right _ (List.mem_append_right _ (List.mem_append_right _ (List.mem_append_right _ ((List.mem_append_left _ h))))))))))))))))))))
theorem in_Wl_20 : ∀ w ∈ Wl_20, w ∈ Wall := fun w h => List.mem_append_right _ (List.mem_append_right _ (List.mem_append_right _ (List.mem_append_right _ (List.mem_append_right _ (List.mem_append_right _ (List.mem_append_right _ (List.mem_append_right _ (List.mem_append_right _ (List.mem_append_right _ (List.mem_append_right _ (List.mem_append_right _ (List.mem_append_right _ (List.mem_append_right _ (List.mem_append_right _ (List.mem_append_right _ (List.mem_append_right _ (List.mem_append_right _ (List.mem_append_right _ (List.mem_append_right _ ((List.mem_append_left _ h)))))))))))))))))))))
theorem in_Wl_21 : ∀ w ∈ Wl_21, w ∈ Wall := fun w h => List.mem_append_right _ (List.mem_append_right _ (List.mem_append_right _ (List.mem_append_right _ (List.mem_append_right _ (List.mem_append_right _ (List.mem_append_right _ (List.mem_append_right _ (List.mem_append_right _ (List.mem_append_right _ (List.mem_append_right _ (List.mem_append_right _ (List.mem_append_right _ (List.mem_append_right _ (List.mem_append_right _ (List.mem_append_right _ (List.mem_append_right _ (List.mem_append_right _ (List.mem_append_right _ (List.mem_append_right _ (List.mem_append_right _ ((List.mem_append_left _ h))))))))))))))))))))))
theorem in_Wl_22 : ∀ w ∈ Wl_22, w ∈ Wall := fun w h => List.mem_append_right _ (List.mem_append_right _ (List.mem_append_right _ (List.mem_append_right _ (List.mem_append_right _ (List.mem_append_right _ (List.mem_append_right _ (List.mem_append_right _ (List.mem_append_right _ (List.mem_append_right _ (List.mem_append_right _ (List.mem_append_right _ (List.mem_append_right _ (List.mem_append_right _ (List.mem_append_right _ (List.mem_append_right _ (List.mem_append_right _ (List.mem_append_right _ (List.mem_append_right _ (List.mem_append_right _ (List.mem_append_right _ (List.mem_append_right _ ((List.mem_append_left _ h)))))))))))))))))))))))
theorem in_wsX00 : ∀ w ∈ wsX00, w ∈ Wall := fun w h => List.mem_append_right _ (List.mem_append_right _ (List.mem_append_right _ (List.mem_append_right _ (List.mem_append_right _ (List.mem_append_right _ (List.mem_append_right _ (List.mem_append_right _ (List.mem_append_right _ (List.mem_append_right _ (List.mem_append_right _ (List.mem_append_right _ (List.mem_append_right _ (List.mem_append_right _ (List.mem_append_right _ (List.mem_append_right _ (List.mem_append_right _ (List.mem_append_right _ (List.mem_append_right _ (List.mem_append_right _ (List.mem_append_right _ (List.mem_append_right _ (List.mem_append_right _ ((List.mem_append_left _ h))))))))))))))))))))))))
theorem in_wsX10 : ∀ w ∈ wsX10, w ∈ Wall := fun w h => List.mem_append_right _ (List.mem_append_right _ (List.mem_append_right _ (List.mem_append_right _ (List.mem_append_right _ (List.mem_append_right _ (List.mem_append_right _ (List.mem_append_right _ (List.mem_append_right _ (List.mem_append_right _ (List.mem_append_right _ (List.mem_append_right _ (List.mem_append_right _ (List.mem_append_right _ (List.mem_append_right _ (List.mem_append_right _ (List.mem_append_right _ (List.mem_append_right _ (List.mem_append_right _ (List.mem_append_right _ (List.mem_append_right _ (List.mem_append_right _ (List.mem_append_right _ (List.mem_append_right _ ((List.mem_append_left _ h)))))))))))))))))))))))))
theorem in_wsX20 : ∀ w ∈ wsX20, w ∈ Wall := fun w h => List.mem_append_right _ (List.mem_append_right _ (List.mem_append_right _ (List.mem_append_right _ (List.mem_append_right _ (List.mem_append_right _ (List.mem_append_right _ (List.mem_append_right _ (List.mem_append_right _ (List.mem_append_right _ (List.mem_append_right _ (List.mem_append_right _ (List.mem_append_right _ (List.mem_append_right _ (List.mem_append_right _ (List.mem_append_right _ (List.mem_append_right _ (List.mem_append_right _ (List.mem_append_right _ (List.mem_append_right _ (List.mem_append_right _ (List.mem_append_right _ (List.mem_append_right _ (List.mem_append_right _ (List.mem_append_right _ ((List.mem_append_left _ h))))))))))))))))))))))))))
theorem in_wsX30 : ∀ w ∈ wsX30, w ∈ Wall := fun w h => List.mem_append_right _ (List.mem_append_right _ (List.mem_append_right _ (List.mem_append_right _ (List.mem_append_right _ (List.mem_append_right _ (List.mem_append_right _ (List.mem_append_right _ (List.mem_append_right _ (List.mem_append_right _ (List.mem_append_right _ (List.mem_append_right _ (List.mem_append_right _ (List.mem_append_right _ (List.mem_append_right _ (List.mem_append_right _ (List.mem_append_right _ (List.mem_append_right _ (List.mem_append_right _ (List.mem_append_right _ (List.mem_append_right _ (List.mem_append_right _ (List.mem_append_right _ (List.mem_append_right _ (List.mem_append_right _ (List.mem_append_right _ ((List.mem_append_left _ h)))))))))))))))))))))))))))
theorem in_wsX40 : ∀ w ∈ wsX40, w ∈ Wall := fun w h => List.mem_append_right _ (List.mem_append_right _ (List.mem_append_right _ (List.mem_append_right _ (List.mem_append_right _ (List.mem_append_right _ (List.mem_append_right _ (List.mem_append_right _ (List.mem_append_right _ (List.mem_append_right _ (List.mem_append_right _ (List.mem_append_right _ (List.mem_append_right _ (List.mem_append_right _ (List.mem_append_right _ (List.mem_append_right _ (List.mem_append_right _ (List.mem_append_right _ (List.mem_append_right _ (List.mem_append_right _ (List.mem_append_right _ (List.mem_append_right _ (List.mem_append_right _ (List.mem_append_right _ (List.mem_append_right _ (List.mem_append_right _ (List.mem_append_right _ ((List.mem_append_left _ h))))))))))))))))))))))))))))
theorem in_wsX50 : ∀ w ∈ wsX50, w ∈ Wall := fun w h => List.mem_append_right _ (List.mem_append_right _ (List.mem_append_right _ (List.mem_append_right _ (List.mem_append_right _ (List.mem_append_right _ (List.mem_append_right _ (List.mem_append_right _ (List.mem_append_right _ (List.mem_append_right _ (List.mem_append_right _ (List.mem_append_right _ (List.mem_append_right _ (List.mem_append_right _ (List.mem_append_right _ (List.mem_append_right _ (List.mem_append_right _ (List.mem_append_right _ (List.mem_append_right _ (List.mem_append_right _ (List.mem_append_right _ (List.mem_append_right _ (List.mem_append_right _ (List.mem_append_right _ (List.mem_append_right _ (List.mem_append_right _ (List.mem_append_right _ (List.mem_append_right _ ((List.mem_append_left _ h)))))))))))))))))))))))))))))
theorem in_wsX60 : ∀ w ∈ wsX60, w ∈ Wall := fun w h => List.mem_append_right _ (List.mem_append_right _ (List.mem_append_right _ (List.mem_append_right _ (List.mem_append_right _ (List.mem_append_right _ (List.mem_append_right _ (List.mem_append_right _ (List.mem_append_right _ (List.mem_append_right _ (List.mem_append_right _ (List.mem_append_right _ (List.mem_append_right _ (List.mem_append_right _ (List.mem_append_right _ (List.mem_append_right _ (List.mem_append_right _ (List.mem_append_right _ (List.mem_append_right _ (List.mem_append_right _ (List.mem_append_right _ (List.mem_append_right _ (List.mem_append_right _ (List.mem_append_right _ (List.mem_append_right _ (List.mem_append_right _ (List.mem_append_right _ (List.mem_append_right _ (List.mem_append_right _ (h)))))))))))))))))))))))))))))
theorem ok_Wl_0 : ∀ w ∈ Wl_0, goodWord w = true := by decide +kernel
theorem ok_Wl_1 : ∀ w ∈ Wl_1, goodWord w = true := by decide +kernel
theorem ok_Wl_2 : ∀ w ∈ Wl_2, goodWord w = true := by decide +kernel
theorem ok_Wl_3 : ∀ w ∈ Wl_3, goodWord w = true := by decide +kernel
theorem ok_Wl_4 : ∀ w ∈ Wl_4, goodWord w = true := by decide +kernel
theorem ok_Wl_5 : ∀ w ∈ Wl_5, goodWord w = true := by decide +kernel
theorem ok_Wl_6 : ∀ w ∈ Wl_6, goodWord w = true := by decide +kernel
theorem ok_Wl_7 : ∀ w ∈ Wl_7, goodWord w = true := by decide +kernel
theorem ok_Wl_8 : ∀ w ∈ Wl_8, goodWord w = true := by decide +kernel
theorem ok_Wl_9 : ∀ w ∈ Wl_9, goodWord w = true := by decide +kernel
theorem ok_Wl_10 : ∀ w ∈ Wl_10, goodWord w = true := by decide +kernel
theorem ok_Wl_11 : ∀ w ∈ Wl_11, goodWord w = true := by decide +kernel
theorem ok_Wl_12 : ∀ w ∈ Wl_12, goodWord w = true := by decide +kernel
theorem ok_Wl_13 : ∀ w ∈ Wl_13, goodWord w = true := by decide +kernel
theorem ok_Wl_14 : ∀ w ∈ Wl_14, goodWord w = true := by decide +kernel
theorem ok_Wl_15 : ∀ w ∈ Wl_15, goodWord w = true := by decide +kernel
theorem ok_Wl_16 : ∀ w ∈ Wl_16, goodWord w = true := by decide +kernel
theorem ok_Wl_17 : ∀ w ∈ Wl_17, goodWord w = true := by decide +kernel
theorem ok_Wl_18 : ∀ w ∈ Wl_18, goodWord w = true := by decide +kernel
theorem ok_Wl_19 : ∀ w ∈ Wl_19, goodWord w = true := by decide +kernel
theorem ok_Wl_20 : ∀ w ∈ Wl_20, goodWord w = true := by decide +kernel
theorem ok_Wl_21 : ∀ w ∈ Wl_21, goodWord w = true := by decide +kernel
theorem ok_Wl_22 : ∀ w ∈ Wl_22, goodWord w = true := by decide +kernel
theorem ok_wsX00 : ∀ w ∈ wsX00, goodWord w = true := by decide +kernel
theorem ok_wsX10 : ∀ w ∈ wsX10, goodWord w = true := by decide +kernel
theorem ok_wsX20 : ∀ w ∈ wsX20, goodWord w = true := by decide +kernel
theorem ok_wsX30 : ∀ w ∈ wsX30, goodWord w = true := by decide +kernel
theorem ok_wsX40 : ∀ w ∈ wsX40, goodWord w = true := by decide +kernel
theorem ok_wsX50 : ∀ w ∈ wsX50, goodWord w = true := by decide +kernel
theorem ok_wsX60 : ∀ w ∈ wsX60, goodWord w = true := by decide +kernel
theorem Wall_ok : ∀ w ∈ Wall, goodWord w = true := fun w h => (List.mem_append.mp h).elim (fun h => ok_Wl_0 w h) (fun h => (List.mem_append.mp h).elim (fun h => ok_Wl_1 w h) (fun h => (List.mem_append.mp h).elim (fun h => ok_Wl_2 w h) (fun h => (List.mem_append.mp h).elim (fun h => ok_Wl_3 w h) (fun h => (List.mem_append.mp h).elim (fun h => ok_Wl_4 w h) (fun h => (List.mem_append.mp h).elim (fun h => ok_Wl_5 w h) (fun h => (List.mem_append.mp h).elim (fun h => ok_Wl_6 w h) (fun h => (List.mem_append.mp h).elim (fun h => ok_Wl_7 w h) (fun h => (List.mem_append.mp h).elim (fun h => ok_Wl_8 w h) (fun h => (List.mem_append.mp h).elim (fun h => ok_Wl_9 w h) (fun h => (List.mem_append.mp h).elim (fun h => ok_Wl_10 w h) (fun h => (List.mem_append.mp h).elim (fun h => ok_Wl_11 w h) (fun h => (List.mem_append.mp h).elim (fun h => ok_Wl_12 w h) (fun h => (List.mem_append.mp h).elim (fun h => ok_Wl_13 w h) (fun h => (List.mem_append.mp h).elim (fun h => ok_Wl_14 w h) (fun h => (List.mem_append.mp h).elim (fun h => ok_Wl_15 w h) (fun h => (List.mem_append.mp h).elim (fun h => ok_Wl_16 w h) (fun h => (List.mem_append.mp h).elim (fun h => ok_Wl_17 w h) (fun h => (List.mem_append.mp h).elim (fun h => ok_Wl_18 w h) (fun h => (List.mem_append.mp h).elim (fun h => ok_Wl_19 w h) (fun h => (List.mem_append.mp h).elim (fun h => ok_Wl_20 w h) (fun h => (List.mem_append.mp h).elim (fun h => ok_Wl_21 w h) (fun h => (List.mem_append.mp h).elim (fun h => ok_Wl_22 w h) (fun h => (List.mem_append.mp h).elim (fun h => ok_wsX00 w h) (fun h => (List.mem_append.mp h).elim (fun h => ok_wsX10 w h) (fun h => (List.mem_append.mp h).elim (fun h => ok_wsX20 w h) (fun h => (List.mem_append.mp h).elim (fun h => ok_wsX30 w h) (fun h => (List.mem_append.mp h).elim (fun h => ok_wsX40 w h) (fun h => (List.mem_append.mp h).elim (fun h => ok_wsX50 w h) (fun h => ok_wsX60 w h)))))))))))))))))))))))))))))
theorem Wall_good : ∀ w ∈ Wall, ((w.onTables && w.keeps) = true ∨ ∃ ty, w = .arrayClass ty) := fun w h => good_of_word (Wall_ok w h)
theorem wm_0 : (Cond.classLink RL 25 RX5) ∈ Wall := in_Wl_0 _ (List.mem_of_getElem? (i := 0) rfl)
theorem wm_1 : (Cond.instantiable RX5 10) ∈ Wall := in_Wl_0 _ (List.mem_of_getElem? (i := 1) rfl)
theorem wm_2 : (Cond.initialized RX5) ∈ Wall := in_Wl_0 _ (List.mem_of_getElem? (i := 2) rfl)
theorem wm_3 : (Cond.fieldLink RL 55 "CanticleLaw$Own" "words" "I") ∈ Wall := in_Wl_0 _ (List.mem_of_getElem? (i := 3) rfl)
theorem wm_4 : (Cond.constant RL 66 (1000001)) ∈ Wall := in_Wl_0 _ (List.mem_of_getElem? (i := 4) rfl)
theorem wm_5 : (Cond.constant RL 73 (1000000)) ∈ Wall := in_Wl_0 _ (List.mem_of_getElem? (i := 5) rfl)
theorem wm_6 : (Cond.fieldLink RL 74 "CanticleLaw$Own" "order" "I") ∈ Wall := in_Wl_0 _ (List.mem_of_getElem? (i := 6) rfl)
theorem wm_7 : (Cond.methodLink RL 50 yX5_init) ∈ Wall := in_Wl_0 _ (List.mem_of_getElem? (i := 7) rfl)
theorem wm_8 : (Cond.instanceMethod yX5_init) ∈ Wall := in_Wl_0 _ (List.mem_of_getElem? (i := 8) rfl)
theorem wm_9 : (Cond.code yX5_init cX5_init 1 none) ∈ Wall := in_Wl_0 _ (List.mem_of_getElem? (i := 9) rfl)
theorem wm_10 : (Cond.methodLink RX5 1 objectInit) ∈ Wall := in_Wl_0 _ (List.mem_of_getElem? (i := 10) rfl)
theorem wm_11 : (Cond.instanceMethod objectInit) ∈ Wall := in_Wl_0 _ (List.mem_of_getElem? (i := 11) rfl)
theorem wm_12 : (Cond.code objectInit ⟨#[0xb1]⟩ 1 none) ∈ Wall := in_Wl_0 _ (List.mem_of_getElem? (i := 12) rfl)
theorem wm_13 : (Cond.classLink RX5 7 RX0) ∈ Wall := in_Wl_0 _ (List.mem_of_getElem? (i := 13) rfl)
theorem wm_14 : (Cond.instantiable RX0 4) ∈ Wall := in_Wl_0 _ (List.mem_of_getElem? (i := 14) rfl)
theorem wm_15 : (Cond.initialized RX0) ∈ Wall := in_Wl_0 _ (List.mem_of_getElem? (i := 15) rfl)
theorem wm_16 : (Cond.fieldLink RX5 10 "Canticle" "ledger" "LCanticle$Ledger;") ∈ Wall := in_Wl_0 _ (List.mem_of_getElem? (i := 16) rfl)
theorem wm_17 : (Cond.classLink RX5 16 RX1) ∈ Wall := in_Wl_0 _ (List.mem_of_getElem? (i := 17) rfl)
theorem wm_18 : (Cond.instantiable RX1 7) ∈ Wall := in_Wl_0 _ (List.mem_of_getElem? (i := 18) rfl)
theorem wm_19 : (Cond.initialized RX1) ∈ Wall := in_Wl_0 _ (List.mem_of_getElem? (i := 19) rfl)
theorem wm_20 : (Cond.fieldLink RX5 21 "Canticle" "reckoner" "LCanticle$Reckoner;") ∈ Wall := in_Wl_0 _ (List.mem_of_getElem? (i := 20) rfl)
theorem wm_21 : (Cond.classLink RX5 25 RX3) ∈ Wall := in_Wl_0 _ (List.mem_of_getElem? (i := 21) rfl)
theorem wm_22 : (Cond.instantiable RX3 6) ∈ Wall := in_Wl_0 _ (List.mem_of_getElem? (i := 22) rfl)
theorem wm_23 : (Cond.initialized RX3) ∈ Wall := in_Wl_0 _ (List.mem_of_getElem? (i := 23) rfl)
theorem wm_24 : (Cond.fieldLink RX5 30 "Canticle" "search" "LCanticle$Search;") ∈ Wall := in_Wl_1 _ (List.mem_of_getElem? (i := 0) rfl)
theorem wm_25 : (Cond.classLink RX5 34 RX2) ∈ Wall := in_Wl_1 _ (List.mem_of_getElem? (i := 1) rfl)
theorem wm_26 : (Cond.instantiable RX2 4) ∈ Wall := in_Wl_1 _ (List.mem_of_getElem? (i := 2) rfl)
theorem wm_27 : (Cond.initialized RX2) ∈ Wall := in_Wl_1 _ (List.mem_of_getElem? (i := 3) rfl)
theorem wm_28 : (Cond.fieldLink RX5 37 "Canticle" "script" "LCanticle$Script;") ∈ Wall := in_Wl_1 _ (List.mem_of_getElem? (i := 4) rfl)
theorem wm_29 : (Cond.arrayClass .boolean) ∈ Wall := in_Wl_1 _ (List.mem_of_getElem? (i := 5) rfl)
theorem wm_30 : (Cond.fieldLink RX5 43 "Canticle" "doomed" "[Z") ∈ Wall := in_Wl_1 _ (List.mem_of_getElem? (i := 6) rfl)
theorem wm_31 : (Cond.arrayClass .int) ∈ Wall := in_Wl_1 _ (List.mem_of_getElem? (i := 7) rfl)
theorem wm_32 : (Cond.fieldLink RX5 47 "Canticle" "sentence" "[I") ∈ Wall := in_Wl_1 _ (List.mem_of_getElem? (i := 8) rfl)
theorem wm_33 : (Cond.fieldLink RX5 51 "Canticle" "length" "I") ∈ Wall := in_Wl_1 _ (List.mem_of_getElem? (i := 9) rfl)
theorem wm_34 : (Cond.fieldLink RX5 55 "Canticle" "luck" "I") ∈ Wall := in_Wl_1 _ (List.mem_of_getElem? (i := 10) rfl)
theorem wm_35 : (Cond.fieldLink RX5 58 "Canticle" "draws" "I") ∈ Wall := in_Wl_1 _ (List.mem_of_getElem? (i := 11) rfl)
theorem wm_36 : (Cond.fieldLink RX5 61 "Canticle" "ended" "Z") ∈ Wall := in_Wl_1 _ (List.mem_of_getElem? (i := 12) rfl)
theorem wm_37 : (Cond.methodLink RX5 9 yX0_init) ∈ Wall := in_Wl_1 _ (List.mem_of_getElem? (i := 13) rfl)
theorem wm_38 : (Cond.instanceMethod yX0_init) ∈ Wall := in_Wl_1 _ (List.mem_of_getElem? (i := 14) rfl)
theorem wm_39 : (Cond.code yX0_init cX0_init 2 none) ∈ Wall := in_Wl_1 _ (List.mem_of_getElem? (i := 15) rfl)
theorem wm_40 : (Cond.methodLink RX0 3 objectInit) ∈ Wall := in_Wl_1 _ (List.mem_of_getElem? (i := 16) rfl)
theorem wm_41 : (Cond.fieldLink RX0 9 "Canticle$Ledger" "words" "I") ∈ Wall := in_Wl_1 _ (List.mem_of_getElem? (i := 17) rfl)
theorem wm_42 : (Cond.fieldLink RX0 15 "Canticle$Ledger" "order" "I") ∈ Wall := in_Wl_1 _ (List.mem_of_getElem? (i := 18) rfl)
theorem wm_43 : (Cond.classLink RX0 18 RX4) ∈ Wall := in_Wl_1 _ (List.mem_of_getElem? (i := 19) rfl)
theorem wm_44 : (Cond.fieldLink RX0 20 "Canticle$Ledger" "counted" "[LCanticle$Tally;") ∈ Wall := in_Wl_1 _ (List.mem_of_getElem? (i := 20) rfl)
theorem wm_45 : (Cond.fieldLink RX0 24 "Canticle$Ledger" "varied" "[LCanticle$Tally;") ∈ Wall := in_Wl_1 _ (List.mem_of_getElem? (i := 21) rfl)
theorem wm_46 : (Cond.instantiable RX4 3) ∈ Wall := in_Wl_1 _ (List.mem_of_getElem? (i := 22) rfl)
theorem wm_47 : (Cond.initialized RX4) ∈ Wall := in_Wl_1 _ (List.mem_of_getElem? (i := 23) rfl)
theorem wm_48 : (Cond.instanceMethod yX4_init) ∈ Wall := in_Wl_2 _ (List.mem_of_getElem? (i := 0) rfl)
theorem wm_49 : (Cond.code yX4_init cX4_init 1 none) ∈ Wall := in_Wl_2 _ (List.mem_of_getElem? (i := 1) rfl)
theorem wm_50 : (Cond.methodLink RX4 1 objectInit) ∈ Wall := in_Wl_2 _ (List.mem_of_getElem? (i := 2) rfl)
theorem wm_51 : (Cond.fieldLink RX4 9 "Canticle$Tally" "keys" "[I") ∈ Wall := in_Wl_2 _ (List.mem_of_getElem? (i := 3) rfl)
theorem wm_52 : (Cond.fieldLink RX4 13 "Canticle$Tally" "counts" "[I") ∈ Wall := in_Wl_2 _ (List.mem_of_getElem? (i := 4) rfl)
theorem wm_53 : (Cond.fieldLink RX4 16 "Canticle$Tally" "size" "I") ∈ Wall := in_Wl_2 _ (List.mem_of_getElem? (i := 5) rfl)
theorem wm_54 : (Cond.methodLink RX5 18 yX1_init) ∈ Wall := in_Wl_2 _ (List.mem_of_getElem? (i := 6) rfl)
theorem wm_55 : (Cond.instanceMethod yX1_init) ∈ Wall := in_Wl_2 _ (List.mem_of_getElem? (i := 7) rfl)
theorem wm_56 : (Cond.code yX1_init cX1_init 2 none) ∈ Wall := in_Wl_2 _ (List.mem_of_getElem? (i := 8) rfl)
theorem wm_57 : (Cond.methodLink RX1 3 objectInit) ∈ Wall := in_Wl_2 _ (List.mem_of_getElem? (i := 9) rfl)
theorem wm_58 : (Cond.fieldLink RX1 9 "Canticle$Reckoner" "way" "I") ∈ Wall := in_Wl_2 _ (List.mem_of_getElem? (i := 10) rfl)
theorem wm_59 : (Cond.fieldLink RX1 15 "Canticle$Reckoner" "number" "I") ∈ Wall := in_Wl_2 _ (List.mem_of_getElem? (i := 11) rfl)
theorem wm_60 : (Cond.fieldLink RX1 18 "Canticle$Reckoner" "chances" "[I") ∈ Wall := in_Wl_2 _ (List.mem_of_getElem? (i := 12) rfl)
theorem wm_61 : (Cond.fieldLink RX1 22 "Canticle$Reckoner" "own" "[I") ∈ Wall := in_Wl_2 _ (List.mem_of_getElem? (i := 13) rfl)
theorem wm_62 : (Cond.fieldLink RX1 25 "Canticle$Reckoner" "sum" "J") ∈ Wall := in_Wl_2 _ (List.mem_of_getElem? (i := 14) rfl)
theorem wm_63 : (Cond.fieldLink RX1 29 "Canticle$Reckoner" "kinds" "I") ∈ Wall := in_Wl_2 _ (List.mem_of_getElem? (i := 15) rfl)
theorem wm_64 : (Cond.fieldLink RX1 32 "Canticle$Reckoner" "ledger" "LCanticle$Ledger;") ∈ Wall := in_Wl_2 _ (List.mem_of_getElem? (i := 16) rfl)
theorem wm_65 : (Cond.methodLink RX5 27 yX3_init) ∈ Wall := in_Wl_2 _ (List.mem_of_getElem? (i := 17) rfl)
theorem wm_66 : (Cond.instanceMethod yX3_init) ∈ Wall := in_Wl_2 _ (List.mem_of_getElem? (i := 18) rfl)
theorem wm_67 : (Cond.code yX3_init cX3_init 3 none) ∈ Wall := in_Wl_2 _ (List.mem_of_getElem? (i := 19) rfl)
theorem wm_68 : (Cond.methodLink RX3 3 objectInit) ∈ Wall := in_Wl_2 _ (List.mem_of_getElem? (i := 20) rfl)
theorem wm_69 : (Cond.fieldLink RX3 11 "Canticle$Search" "costs" "[I") ∈ Wall := in_Wl_2 _ (List.mem_of_getElem? (i := 21) rfl)
theorem wm_70 : (Cond.classLink RX3 15 "[[I") ∈ Wall := in_Wl_2 _ (List.mem_of_getElem? (i := 22) rfl)
theorem wm_71 : (Cond.fieldLink RX3 17 "Canticle$Search" "choices" "[[I") ∈ Wall := in_Wl_2 _ (List.mem_of_getElem? (i := 23) rfl)
theorem wm_72 : (Cond.fieldLink RX3 20 "Canticle$Search" "least" "[I") ∈ Wall := in_Wl_3 _ (List.mem_of_getElem? (i := 0) rfl)
theorem wm_73 : (Cond.fieldLink RX3 23 "Canticle$Search" "leastBehind" "[I") ∈ Wall := in_Wl_3 _ (List.mem_of_getElem? (i := 1) rfl)
theorem wm_74 : (Cond.fieldLink RX3 26 "Canticle$Search" "ledger" "LCanticle$Ledger;") ∈ Wall := in_Wl_3 _ (List.mem_of_getElem? (i := 2) rfl)
theorem wm_75 : (Cond.fieldLink RX3 30 "Canticle$Search" "reckoner" "LCanticle$Reckoner;") ∈ Wall := in_Wl_3 _ (List.mem_of_getElem? (i := 3) rfl)
theorem wm_76 : (Cond.instanceMethod yX2_init) ∈ Wall := in_Wl_3 _ (List.mem_of_getElem? (i := 4) rfl)
theorem wm_77 : (Cond.code yX2_init cX2_init 1 none) ∈ Wall := in_Wl_3 _ (List.mem_of_getElem? (i := 5) rfl)
theorem wm_78 : (Cond.methodLink RX2 3 objectInit) ∈ Wall := in_Wl_3 _ (List.mem_of_getElem? (i := 6) rfl)
theorem wm_79 : (Cond.fieldLink RX2 9 "Canticle$Script" "codes" "[I") ∈ Wall := in_Wl_3 _ (List.mem_of_getElem? (i := 7) rfl)
theorem wm_80 : (Cond.fieldLink RX2 15 "Canticle$Script" "numbers" "[I") ∈ Wall := in_Wl_3 _ (List.mem_of_getElem? (i := 8) rfl)
theorem wm_81 : (Cond.fieldLink RX2 18 "Canticle$Script" "returns" "[I") ∈ Wall := in_Wl_3 _ (List.mem_of_getElem? (i := 9) rfl)
theorem wm_82 : (Cond.fieldLink RX2 21 "Canticle$Script" "size" "I") ∈ Wall := in_Wl_3 _ (List.mem_of_getElem? (i := 10) rfl)
theorem wm_83 : (Cond.methodLink RL 51 yL_build) ∈ Wall := in_Wl_3 _ (List.mem_of_getElem? (i := 11) rfl)
theorem wm_84 : (Cond.static yL_build) ∈ Wall := in_Wl_3 _ (List.mem_of_getElem? (i := 12) rfl)
theorem wm_85 : (Cond.initialized RL) ∈ Wall := in_Wl_3 _ (List.mem_of_getElem? (i := 13) rfl)
theorem wm_86 : (Cond.code yL_build cL_build 8 (some (.object "CanticleLaw$Own"))) ∈ Wall := in_Wl_3 _ (List.mem_of_getElem? (i := 14) rfl)
theorem wm_87 : (Cond.classLink RL 19 RX6) ∈ Wall := in_Wl_3 _ (List.mem_of_getElem? (i := 15) rfl)
theorem wm_88 : (Cond.instantiable RX6 4) ∈ Wall := in_Wl_3 _ (List.mem_of_getElem? (i := 16) rfl)
theorem wm_89 : (Cond.initialized RX6) ∈ Wall := in_Wl_3 _ (List.mem_of_getElem? (i := 17) rfl)
theorem wm_90 : (Cond.methodLink RL 9 yL_cell) ∈ Wall := in_Wl_3 _ (List.mem_of_getElem? (i := 18) rfl)
theorem wm_91 : (Cond.static yL_cell) ∈ Wall := in_Wl_3 _ (List.mem_of_getElem? (i := 19) rfl)
theorem wm_92 : (Cond.code yL_cell cL_cell 2 (some .int)) ∈ Wall := in_Wl_3 _ (List.mem_of_getElem? (i := 20) rfl)
theorem wm_93 : (Cond.constant RL 8 (790386105)) ∈ Wall := in_Wl_3 _ (List.mem_of_getElem? (i := 21) rfl)
theorem wm_94 : (Cond.methodLink RL 15 yL_below) ∈ Wall := in_Wl_3 _ (List.mem_of_getElem? (i := 22) rfl)
theorem wm_95 : (Cond.static yL_below) ∈ Wall := in_Wl_3 _ (List.mem_of_getElem? (i := 23) rfl)
theorem wm_96 : (Cond.code yL_below cL_below 2 (some .int)) ∈ Wall := in_Wl_4 _ (List.mem_of_getElem? (i := 0) rfl)
theorem wm_97 : (Cond.constant RL 7 (2147483647)) ∈ Wall := in_Wl_4 _ (List.mem_of_getElem? (i := 1) rfl)
theorem wm_98 : (Cond.methodLink RL 21 yX6_init) ∈ Wall := in_Wl_4 _ (List.mem_of_getElem? (i := 2) rfl)
theorem wm_99 : (Cond.instanceMethod yX6_init) ∈ Wall := in_Wl_4 _ (List.mem_of_getElem? (i := 3) rfl)
theorem wm_100 : (Cond.code yX6_init cX6_init 3 none) ∈ Wall := in_Wl_4 _ (List.mem_of_getElem? (i := 4) rfl)
theorem wm_101 : (Cond.methodLink RX6 1 objectInit) ∈ Wall := in_Wl_4 _ (List.mem_of_getElem? (i := 5) rfl)
theorem wm_102 : (Cond.classLink RX6 7 "[I") ∈ Wall := in_Wl_4 _ (List.mem_of_getElem? (i := 6) rfl)
theorem wm_103 : (Cond.fieldLink RX6 9 "CanticleLaw$Own" "rows" "[[I") ∈ Wall := in_Wl_4 _ (List.mem_of_getElem? (i := 7) rfl)
theorem wm_104 : (Cond.fieldLink RX6 15 "CanticleLaw$Own" "times" "[I") ∈ Wall := in_Wl_4 _ (List.mem_of_getElem? (i := 8) rfl)
theorem wm_105 : (Cond.fieldLink RX6 18 "CanticleLaw$Own" "words" "I") ∈ Wall := in_Wl_4 _ (List.mem_of_getElem? (i := 9) rfl)
theorem wm_106 : (Cond.fieldLink RX6 22 "CanticleLaw$Own" "order" "I") ∈ Wall := in_Wl_4 _ (List.mem_of_getElem? (i := 10) rfl)
theorem wm_107 : (Cond.methodLink RL 24 yX5_addWord) ∈ Wall := in_Wl_4 _ (List.mem_of_getElem? (i := 11) rfl)
theorem wm_108 : (Cond.instanceMethod yX5_addWord) ∈ Wall := in_Wl_4 _ (List.mem_of_getElem? (i := 12) rfl)
theorem wm_109 : (Cond.selects RX5 yX5_addWord yX5_addWord) ∈ Wall := in_Wl_4 _ (List.mem_of_getElem? (i := 13) rfl)
theorem wm_110 : (Cond.code yX5_addWord cX5_addWord 1 (some .int)) ∈ Wall := in_Wl_4 _ (List.mem_of_getElem? (i := 14) rfl)
theorem wm_111 : (Cond.classLink RX5 68 "java/lang/IllegalStateException") ∈ Wall := in_Wl_4 _ (List.mem_of_getElem? (i := 15) rfl)
theorem wm_112 : (Cond.initialized "java/lang/IllegalStateException") ∈ Wall := in_Wl_4 _ (List.mem_of_getElem? (i := 16) rfl)
theorem wm_113 : (Cond.fieldLink RX5 65 "Canticle$Ledger" "words" "I") ∈ Wall := in_Wl_4 _ (List.mem_of_getElem? (i := 17) rfl)
theorem wm_114 : (Cond.methodLink RX5 75 yX0_forgetAll) ∈ Wall := in_Wl_4 _ (List.mem_of_getElem? (i := 18) rfl)
theorem wm_115 : (Cond.instanceMethod yX0_forgetAll) ∈ Wall := in_Wl_4 _ (List.mem_of_getElem? (i := 19) rfl)
theorem wm_116 : (Cond.selects RX0 yX0_forgetAll yX0_forgetAll) ∈ Wall := in_Wl_4 _ (List.mem_of_getElem? (i := 20) rfl)
theorem wm_117 : (Cond.code yX0_forgetAll cX0_forgetAll 2 none) ∈ Wall := in_Wl_4 _ (List.mem_of_getElem? (i := 21) rfl)
theorem wm_118 : (Cond.fieldLink RX0 59 "Canticle$Tally" "size" "I") ∈ Wall := in_Wl_4 _ (List.mem_of_getElem? (i := 22) rfl)
theorem wm_119 : (Cond.methodLink RX0 37 yX0_countsOf) ∈ Wall := in_Wl_4 _ (List.mem_of_getElem? (i := 23) rfl)
theorem wm_120 : (Cond.instanceMethod yX0_countsOf) ∈ Wall := in_Wl_5 _ (List.mem_of_getElem? (i := 0) rfl)
theorem wm_121 : (Cond.selects RX0 yX0_countsOf yX0_countsOf) ∈ Wall := in_Wl_5 _ (List.mem_of_getElem? (i := 1) rfl)
theorem wm_122 : (Cond.code yX0_countsOf cX0_countsOf 2 (some (.object "Canticle$Tally"))) ∈ Wall := in_Wl_5 _ (List.mem_of_getElem? (i := 2) rfl)
theorem wm_123 : (Cond.methodLink RX0 28 Lib.Math.min.name) ∈ Wall := in_Wl_5 _ (List.mem_of_getElem? (i := 3) rfl)
theorem wm_124 : (Cond.static Lib.Math.min.name) ∈ Wall := in_Wl_5 _ (List.mem_of_getElem? (i := 4) rfl)
theorem wm_125 : (Cond.initialized "java/lang/Math") ∈ Wall := in_Wl_5 _ (List.mem_of_getElem? (i := 5) rfl)
theorem wm_126 : (Cond.code Lib.Math.min.name Lib.Math.min.code 2 (some .int)) ∈ Wall := in_Wl_5 _ (List.mem_of_getElem? (i := 6) rfl)
theorem wm_127 : (Cond.methodLink RX0 34 Lib.Math.max.name) ∈ Wall := in_Wl_5 _ (List.mem_of_getElem? (i := 7) rfl)
theorem wm_128 : (Cond.static Lib.Math.max.name) ∈ Wall := in_Wl_5 _ (List.mem_of_getElem? (i := 8) rfl)
theorem wm_129 : (Cond.code Lib.Math.max.name Lib.Math.max.code 2 (some .int)) ∈ Wall := in_Wl_5 _ (List.mem_of_getElem? (i := 9) rfl)
theorem wm_130 : (Cond.methodLink RX0 45 yX0_varietyOf) ∈ Wall := in_Wl_5 _ (List.mem_of_getElem? (i := 10) rfl)
theorem wm_131 : (Cond.instanceMethod yX0_varietyOf) ∈ Wall := in_Wl_5 _ (List.mem_of_getElem? (i := 11) rfl)
theorem wm_132 : (Cond.selects RX0 yX0_varietyOf yX0_varietyOf) ∈ Wall := in_Wl_5 _ (List.mem_of_getElem? (i := 12) rfl)
theorem wm_133 : (Cond.code yX0_varietyOf cX0_varietyOf 2 (some (.object "Canticle$Tally"))) ∈ Wall := in_Wl_5 _ (List.mem_of_getElem? (i := 13) rfl)
theorem wm_134 : (Cond.methodLink RL 30 yX5_setOrder) ∈ Wall := in_Wl_5 _ (List.mem_of_getElem? (i := 14) rfl)
theorem wm_135 : (Cond.instanceMethod yX5_setOrder) ∈ Wall := in_Wl_5 _ (List.mem_of_getElem? (i := 15) rfl)
theorem wm_136 : (Cond.selects RX5 yX5_setOrder yX5_setOrder) ∈ Wall := in_Wl_5 _ (List.mem_of_getElem? (i := 16) rfl)
theorem wm_137 : (Cond.code yX5_setOrder cX5_setOrder 3 (some .int)) ∈ Wall := in_Wl_5 _ (List.mem_of_getElem? (i := 17) rfl)
theorem wm_138 : (Cond.classLink RX5 78 "java/lang/IllegalArgumentException") ∈ Wall := in_Wl_5 _ (List.mem_of_getElem? (i := 18) rfl)
theorem wm_139 : (Cond.initialized "java/lang/IllegalArgumentException") ∈ Wall := in_Wl_5 _ (List.mem_of_getElem? (i := 19) rfl)
theorem wm_140 : (Cond.fieldLink RX5 83 "Canticle$Ledger" "order" "I") ∈ Wall := in_Wl_5 _ (List.mem_of_getElem? (i := 20) rfl)
theorem wm_141 : (Cond.methodLink RL 34 yL_sentence) ∈ Wall := in_Wl_5 _ (List.mem_of_getElem? (i := 21) rfl)
theorem wm_142 : (Cond.static yL_sentence) ∈ Wall := in_Wl_5 _ (List.mem_of_getElem? (i := 22) rfl)
theorem wm_143 : (Cond.code yL_sentence cL_sentence 6 (some (.array .int))) ∈ Wall := in_Wl_5 _ (List.mem_of_getElem? (i := 23) rfl)
theorem wm_144 : (Cond.methodLink RL 44 yX5_hush) ∈ Wall := in_Wl_6 _ (List.mem_of_getElem? (i := 0) rfl)
theorem wm_145 : (Cond.instanceMethod yX5_hush) ∈ Wall := in_Wl_6 _ (List.mem_of_getElem? (i := 1) rfl)
theorem wm_146 : (Cond.selects RX5 yX5_hush yX5_hush) ∈ Wall := in_Wl_6 _ (List.mem_of_getElem? (i := 2) rfl)
theorem wm_147 : (Cond.code yX5_hush cX5_hush 2 (some .int)) ∈ Wall := in_Wl_6 _ (List.mem_of_getElem? (i := 3) rfl)
theorem wm_148 : (Cond.methodLink RL 47 yX5_say) ∈ Wall := in_Wl_6 _ (List.mem_of_getElem? (i := 4) rfl)
theorem wm_149 : (Cond.instanceMethod yX5_say) ∈ Wall := in_Wl_6 _ (List.mem_of_getElem? (i := 5) rfl)
theorem wm_150 : (Cond.selects RX5 yX5_say yX5_say) ∈ Wall := in_Wl_6 _ (List.mem_of_getElem? (i := 6) rfl)
theorem wm_151 : (Cond.code yX5_say cX5_say 2 (some .int)) ∈ Wall := in_Wl_6 _ (List.mem_of_getElem? (i := 7) rfl)
theorem wm_152 : (Cond.classLink RX5 90 "java/lang/IndexOutOfBoundsException") ∈ Wall := in_Wl_6 _ (List.mem_of_getElem? (i := 8) rfl)
theorem wm_153 : (Cond.initialized "java/lang/IndexOutOfBoundsException") ∈ Wall := in_Wl_6 _ (List.mem_of_getElem? (i := 9) rfl)
theorem wm_154 : (Cond.methodLink RX5 86 yX5_isWord) ∈ Wall := in_Wl_6 _ (List.mem_of_getElem? (i := 10) rfl)
theorem wm_155 : (Cond.instanceMethod yX5_isWord) ∈ Wall := in_Wl_6 _ (List.mem_of_getElem? (i := 11) rfl)
theorem wm_156 : (Cond.selects RX5 yX5_isWord yX5_isWord) ∈ Wall := in_Wl_6 _ (List.mem_of_getElem? (i := 12) rfl)
theorem wm_157 : (Cond.code yX5_isWord cX5_isWord 2 (some .boolean)) ∈ Wall := in_Wl_6 _ (List.mem_of_getElem? (i := 13) rfl)
theorem wm_158 : (Cond.methodLink RX5 97 yX5_append) ∈ Wall := in_Wl_6 _ (List.mem_of_getElem? (i := 14) rfl)
theorem wm_159 : (Cond.instanceMethod yX5_append) ∈ Wall := in_Wl_6 _ (List.mem_of_getElem? (i := 15) rfl)
theorem wm_160 : (Cond.selects RX5 yX5_append yX5_append) ∈ Wall := in_Wl_6 _ (List.mem_of_getElem? (i := 16) rfl)
theorem wm_161 : (Cond.code yX5_append cX5_append 2 none) ∈ Wall := in_Wl_6 _ (List.mem_of_getElem? (i := 17) rfl)
theorem wm_162 : (Cond.methodLink RL 38 yX5_learn) ∈ Wall := in_Wl_6 _ (List.mem_of_getElem? (i := 18) rfl)
theorem wm_163 : (Cond.instanceMethod yX5_learn) ∈ Wall := in_Wl_6 _ (List.mem_of_getElem? (i := 19) rfl)
theorem wm_164 : (Cond.selects RX5 yX5_learn yX5_learn) ∈ Wall := in_Wl_6 _ (List.mem_of_getElem? (i := 20) rfl)
theorem wm_165 : (Cond.code yX5_learn cX5_learn 2 (some .int)) ∈ Wall := in_Wl_6 _ (List.mem_of_getElem? (i := 21) rfl)
theorem wm_166 : (Cond.methodLink RX5 105 yX5_addSentence) ∈ Wall := in_Wl_6 _ (List.mem_of_getElem? (i := 22) rfl)
theorem wm_167 : (Cond.instanceMethod yX5_addSentence) ∈ Wall := in_Wl_6 _ (List.mem_of_getElem? (i := 23) rfl)
theorem wm_168 : (Cond.selects RX5 yX5_addSentence yX5_addSentence) ∈ Wall := in_Wl_7 _ (List.mem_of_getElem? (i := 0) rfl)
theorem wm_169 : (Cond.code yX5_addSentence cX5_addSentence 4 none) ∈ Wall := in_Wl_7 _ (List.mem_of_getElem? (i := 1) rfl)
theorem wm_170 : (Cond.methodLink RX5 202 yX5_keyUpTo) ∈ Wall := in_Wl_7 _ (List.mem_of_getElem? (i := 2) rfl)
theorem wm_171 : (Cond.instanceMethod yX5_keyUpTo) ∈ Wall := in_Wl_7 _ (List.mem_of_getElem? (i := 3) rfl)
theorem wm_172 : (Cond.selects RX5 yX5_keyUpTo yX5_keyUpTo) ∈ Wall := in_Wl_7 _ (List.mem_of_getElem? (i := 4) rfl)
theorem wm_173 : (Cond.code yX5_keyUpTo cX5_keyUpTo 5 (some .int)) ∈ Wall := in_Wl_7 _ (List.mem_of_getElem? (i := 5) rfl)
theorem wm_174 : (Cond.methodLink RX5 267 yX5_digitAt) ∈ Wall := in_Wl_7 _ (List.mem_of_getElem? (i := 6) rfl)
theorem wm_175 : (Cond.instanceMethod yX5_digitAt) ∈ Wall := in_Wl_7 _ (List.mem_of_getElem? (i := 7) rfl)
theorem wm_176 : (Cond.selects RX5 yX5_digitAt yX5_digitAt) ∈ Wall := in_Wl_7 _ (List.mem_of_getElem? (i := 8) rfl)
theorem wm_177 : (Cond.code yX5_digitAt cX5_digitAt 2 (some .int)) ∈ Wall := in_Wl_7 _ (List.mem_of_getElem? (i := 9) rfl)
theorem wm_178 : (Cond.methodLink RX5 270 yX0_raise) ∈ Wall := in_Wl_7 _ (List.mem_of_getElem? (i := 10) rfl)
theorem wm_179 : (Cond.instanceMethod yX0_raise) ∈ Wall := in_Wl_7 _ (List.mem_of_getElem? (i := 11) rfl)
theorem wm_180 : (Cond.selects RX0 yX0_raise yX0_raise) ∈ Wall := in_Wl_7 _ (List.mem_of_getElem? (i := 12) rfl)
theorem wm_181 : (Cond.code yX0_raise cX0_raise 4 none) ∈ Wall := in_Wl_7 _ (List.mem_of_getElem? (i := 13) rfl)
theorem wm_182 : (Cond.methodLink RX0 41 yX4_raise) ∈ Wall := in_Wl_7 _ (List.mem_of_getElem? (i := 14) rfl)
theorem wm_183 : (Cond.instanceMethod yX4_raise) ∈ Wall := in_Wl_7 _ (List.mem_of_getElem? (i := 15) rfl)
theorem wm_184 : (Cond.selects RX4 yX4_raise yX4_raise) ∈ Wall := in_Wl_7 _ (List.mem_of_getElem? (i := 16) rfl)
theorem wm_185 : (Cond.code yX4_raise cX4_raise 4 (some .boolean)) ∈ Wall := in_Wl_7 _ (List.mem_of_getElem? (i := 17) rfl)
theorem wm_186 : (Cond.constant RX4 28 (100000000)) ∈ Wall := in_Wl_7 _ (List.mem_of_getElem? (i := 18) rfl)
theorem wm_187 : (Cond.methodLink RX4 29 Lib.Math.min.name) ∈ Wall := in_Wl_7 _ (List.mem_of_getElem? (i := 19) rfl)
theorem wm_188 : (Cond.methodLink RX4 35 arraycopyName) ∈ Wall := in_Wl_7 _ (List.mem_of_getElem? (i := 20) rfl)
theorem wm_189 : (Cond.native arraycopyName) ∈ Wall := in_Wl_7 _ (List.mem_of_getElem? (i := 21) rfl)
theorem wm_190 : (Cond.static arraycopyName) ∈ Wall := in_Wl_7 _ (List.mem_of_getElem? (i := 22) rfl)
theorem wm_191 : (Cond.initialized "java/lang/System") ∈ Wall := in_Wl_7 _ (List.mem_of_getElem? (i := 23) rfl)
theorem wm_192 : (Cond.methodLink RX4 20 yX4_keysBelow) ∈ Wall := in_Wl_8 _ (List.mem_of_getElem? (i := 0) rfl)
theorem wm_193 : (Cond.instanceMethod yX4_keysBelow) ∈ Wall := in_Wl_8 _ (List.mem_of_getElem? (i := 1) rfl)
theorem wm_194 : (Cond.selects RX4 yX4_keysBelow yX4_keysBelow) ∈ Wall := in_Wl_8 _ (List.mem_of_getElem? (i := 2) rfl)
theorem wm_195 : (Cond.code yX4_keysBelow cX4_keysBelow 4 (some .int)) ∈ Wall := in_Wl_8 _ (List.mem_of_getElem? (i := 3) rfl)
theorem wm_196 : (Cond.methodLink RX4 24 yX4_standsAt) ∈ Wall := in_Wl_8 _ (List.mem_of_getElem? (i := 4) rfl)
theorem wm_197 : (Cond.instanceMethod yX4_standsAt) ∈ Wall := in_Wl_8 _ (List.mem_of_getElem? (i := 5) rfl)
theorem wm_198 : (Cond.selects RX4 yX4_standsAt yX4_standsAt) ∈ Wall := in_Wl_8 _ (List.mem_of_getElem? (i := 6) rfl)
theorem wm_199 : (Cond.code yX4_standsAt cX4_standsAt 3 (some .boolean)) ∈ Wall := in_Wl_8 _ (List.mem_of_getElem? (i := 7) rfl)
theorem wm_200 : (Cond.methodLink RX5 108 yX0_sizeInAll) ∈ Wall := in_Wl_8 _ (List.mem_of_getElem? (i := 8) rfl)
theorem wm_201 : (Cond.instanceMethod yX0_sizeInAll) ∈ Wall := in_Wl_8 _ (List.mem_of_getElem? (i := 9) rfl)
theorem wm_202 : (Cond.selects RX0 yX0_sizeInAll yX0_sizeInAll) ∈ Wall := in_Wl_8 _ (List.mem_of_getElem? (i := 10) rfl)
theorem wm_203 : (Cond.code yX0_sizeInAll cX0_sizeInAll 3 (some .int)) ∈ Wall := in_Wl_8 _ (List.mem_of_getElem? (i := 11) rfl)
theorem wm_204 : (Cond.methodLink RX5 112 yX5_takeSentence) ∈ Wall := in_Wl_8 _ (List.mem_of_getElem? (i := 12) rfl)
theorem wm_205 : (Cond.instanceMethod yX5_takeSentence) ∈ Wall := in_Wl_8 _ (List.mem_of_getElem? (i := 13) rfl)
theorem wm_206 : (Cond.selects RX5 yX5_takeSentence yX5_takeSentence) ∈ Wall := in_Wl_8 _ (List.mem_of_getElem? (i := 14) rfl)
theorem wm_207 : (Cond.code yX5_takeSentence cX5_takeSentence 5 (some .int)) ∈ Wall := in_Wl_8 _ (List.mem_of_getElem? (i := 15) rfl)
theorem wm_208 : (Cond.methodLink RX5 274 yX0_lower) ∈ Wall := in_Wl_8 _ (List.mem_of_getElem? (i := 16) rfl)
theorem wm_209 : (Cond.instanceMethod yX0_lower) ∈ Wall := in_Wl_8 _ (List.mem_of_getElem? (i := 17) rfl)
theorem wm_210 : (Cond.selects RX0 yX0_lower yX0_lower) ∈ Wall := in_Wl_8 _ (List.mem_of_getElem? (i := 18) rfl)
theorem wm_211 : (Cond.code yX0_lower cX0_lower 5 (some .boolean)) ∈ Wall := in_Wl_8 _ (List.mem_of_getElem? (i := 19) rfl)
theorem wm_212 : (Cond.methodLink RX0 52 yX4_lower) ∈ Wall := in_Wl_8 _ (List.mem_of_getElem? (i := 20) rfl)
theorem wm_213 : (Cond.instanceMethod yX4_lower) ∈ Wall := in_Wl_8 _ (List.mem_of_getElem? (i := 21) rfl)
theorem wm_214 : (Cond.selects RX4 yX4_lower yX4_lower) ∈ Wall := in_Wl_8 _ (List.mem_of_getElem? (i := 22) rfl)
theorem wm_215 : (Cond.code yX4_lower cX4_lower 4 (some .boolean)) ∈ Wall := in_Wl_8 _ (List.mem_of_getElem? (i := 23) rfl)
theorem wm_216 : (Cond.methodLink RX4 41 yX4_removeAt) ∈ Wall := in_Wl_9 _ (List.mem_of_getElem? (i := 0) rfl)
theorem wm_217 : (Cond.instanceMethod yX4_removeAt) ∈ Wall := in_Wl_9 _ (List.mem_of_getElem? (i := 1) rfl)
theorem wm_218 : (Cond.selects RX4 yX4_removeAt yX4_removeAt) ∈ Wall := in_Wl_9 _ (List.mem_of_getElem? (i := 2) rfl)
theorem wm_219 : (Cond.code yX4_removeAt cX4_removeAt 2 none) ∈ Wall := in_Wl_9 _ (List.mem_of_getElem? (i := 3) rfl)
theorem wm_220 : (Cond.methodLink RX0 55 yX0_lowerVariety) ∈ Wall := in_Wl_9 _ (List.mem_of_getElem? (i := 4) rfl)
theorem wm_221 : (Cond.instanceMethod yX0_lowerVariety) ∈ Wall := in_Wl_9 _ (List.mem_of_getElem? (i := 5) rfl)
theorem wm_222 : (Cond.selects RX0 yX0_lowerVariety yX0_lowerVariety) ∈ Wall := in_Wl_9 _ (List.mem_of_getElem? (i := 6) rfl)
theorem wm_223 : (Cond.code yX0_lowerVariety cX0_lowerVariety 3 none) ∈ Wall := in_Wl_9 _ (List.mem_of_getElem? (i := 7) rfl)
theorem wm_224 : (Cond.methodLink RL 41 yX6_learn) ∈ Wall := in_Wl_9 _ (List.mem_of_getElem? (i := 8) rfl)
theorem wm_225 : (Cond.instanceMethod yX6_learn) ∈ Wall := in_Wl_9 _ (List.mem_of_getElem? (i := 9) rfl)
theorem wm_226 : (Cond.selects RX6 yX6_learn yX6_learn) ∈ Wall := in_Wl_9 _ (List.mem_of_getElem? (i := 10) rfl)
theorem wm_227 : (Cond.code yX6_learn cX6_learn 6 none) ∈ Wall := in_Wl_9 _ (List.mem_of_getElem? (i := 11) rfl)
theorem wm_228 : (Cond.methodLink RX6 39 yX6_row) ∈ Wall := in_Wl_9 _ (List.mem_of_getElem? (i := 12) rfl)
theorem wm_229 : (Cond.instanceMethod yX6_row) ∈ Wall := in_Wl_9 _ (List.mem_of_getElem? (i := 13) rfl)
theorem wm_230 : (Cond.selects RX6 yX6_row yX6_row) ∈ Wall := in_Wl_9 _ (List.mem_of_getElem? (i := 14) rfl)
theorem wm_231 : (Cond.code yX6_row cX6_row 8 (some (.array .int))) ∈ Wall := in_Wl_9 _ (List.mem_of_getElem? (i := 15) rfl)
theorem wm_232 : (Cond.methodLink RX6 43 yX6_add) ∈ Wall := in_Wl_9 _ (List.mem_of_getElem? (i := 16) rfl)
theorem wm_233 : (Cond.instanceMethod yX6_add) ∈ Wall := in_Wl_9 _ (List.mem_of_getElem? (i := 17) rfl)
theorem wm_234 : (Cond.selects RX6 yX6_add yX6_add) ∈ Wall := in_Wl_9 _ (List.mem_of_getElem? (i := 18) rfl)
theorem wm_235 : (Cond.code yX6_add cX6_add 6 none) ∈ Wall := in_Wl_9 _ (List.mem_of_getElem? (i := 19) rfl)
theorem wm_236 : (Cond.methodLink RX6 33 arraycopyName) ∈ Wall := in_Wl_9 _ (List.mem_of_getElem? (i := 20) rfl)
theorem wm_237 : (Cond.methodLink RX6 29 yX6_find) ∈ Wall := in_Wl_9 _ (List.mem_of_getElem? (i := 21) rfl)
theorem wm_238 : (Cond.instanceMethod yX6_find) ∈ Wall := in_Wl_9 _ (List.mem_of_getElem? (i := 22) rfl)
theorem wm_239 : (Cond.selects RX6 yX6_find yX6_find) ∈ Wall := in_Wl_9 _ (List.mem_of_getElem? (i := 23) rfl)
theorem wm_240 : (Cond.code yX6_find cX6_find 3 (some .int)) ∈ Wall := in_Wl_10 _ (List.mem_of_getElem? (i := 0) rfl)
theorem wm_241 : (Cond.methodLink RX6 25 yX6_isSame) ∈ Wall := in_Wl_10 _ (List.mem_of_getElem? (i := 1) rfl)
theorem wm_242 : (Cond.static yX6_isSame) ∈ Wall := in_Wl_10 _ (List.mem_of_getElem? (i := 2) rfl)
theorem wm_243 : (Cond.code yX6_isSame cX6_isSame 3 (some .boolean)) ∈ Wall := in_Wl_10 _ (List.mem_of_getElem? (i := 3) rfl)
theorem wm_244 : (Cond.methodLink RL 59 yX5_setWay) ∈ Wall := in_Wl_10 _ (List.mem_of_getElem? (i := 4) rfl)
theorem wm_245 : (Cond.instanceMethod yX5_setWay) ∈ Wall := in_Wl_10 _ (List.mem_of_getElem? (i := 5) rfl)
theorem wm_246 : (Cond.selects RX5 yX5_setWay yX5_setWay) ∈ Wall := in_Wl_10 _ (List.mem_of_getElem? (i := 6) rfl)
theorem wm_247 : (Cond.code yX5_setWay cX5_setWay 4 (some .int)) ∈ Wall := in_Wl_10 _ (List.mem_of_getElem? (i := 7) rfl)
theorem wm_248 : (Cond.fieldLink RX5 175 "Canticle$Reckoner" "way" "I") ∈ Wall := in_Wl_10 _ (List.mem_of_getElem? (i := 8) rfl)
theorem wm_249 : (Cond.fieldLink RX5 178 "Canticle$Reckoner" "number" "I") ∈ Wall := in_Wl_10 _ (List.mem_of_getElem? (i := 9) rfl)
theorem wm_250 : (Cond.methodLink RX5 169 yX5_isWay) ∈ Wall := in_Wl_10 _ (List.mem_of_getElem? (i := 10) rfl)
theorem wm_251 : (Cond.static yX5_isWay) ∈ Wall := in_Wl_10 _ (List.mem_of_getElem? (i := 11) rfl)
theorem wm_252 : (Cond.code yX5_isWay cX5_isWay 2 (some .boolean)) ∈ Wall := in_Wl_10 _ (List.mem_of_getElem? (i := 12) rfl)
theorem wm_253 : (Cond.methodLink RL 62 yX5_digest) ∈ Wall := in_Wl_10 _ (List.mem_of_getElem? (i := 13) rfl)
theorem wm_254 : (Cond.instanceMethod yX5_digest) ∈ Wall := in_Wl_10 _ (List.mem_of_getElem? (i := 14) rfl)
theorem wm_255 : (Cond.selects RX5 yX5_digest yX5_digest) ∈ Wall := in_Wl_10 _ (List.mem_of_getElem? (i := 15) rfl)
theorem wm_256 : (Cond.code yX5_digest cX5_digest 4 (some .long)) ∈ Wall := in_Wl_10 _ (List.mem_of_getElem? (i := 16) rfl)
theorem wm_257 : (Cond.constantLong RX5 253 (58041)) ∈ Wall := in_Wl_10 _ (List.mem_of_getElem? (i := 17) rfl)
theorem wm_258 : (Cond.methodLink RX5 255 yX5_mix) ∈ Wall := in_Wl_10 _ (List.mem_of_getElem? (i := 18) rfl)
theorem wm_259 : (Cond.static yX5_mix) ∈ Wall := in_Wl_10 _ (List.mem_of_getElem? (i := 19) rfl)
theorem wm_260 : (Cond.code yX5_mix cX5_mix 4 (some .long)) ∈ Wall := in_Wl_10 _ (List.mem_of_getElem? (i := 20) rfl)
theorem wm_261 : (Cond.constantLong RX5 319 (31)) ∈ Wall := in_Wl_10 _ (List.mem_of_getElem? (i := 21) rfl)
theorem wm_262 : (Cond.methodLink RX5 259 yX5_mixEntries) ∈ Wall := in_Wl_10 _ (List.mem_of_getElem? (i := 22) rfl)
theorem wm_263 : (Cond.instanceMethod yX5_mixEntries) ∈ Wall := in_Wl_10 _ (List.mem_of_getElem? (i := 23) rfl)
theorem wm_264 : (Cond.selects RX5 yX5_mixEntries yX5_mixEntries) ∈ Wall := in_Wl_11 _ (List.mem_of_getElem? (i := 0) rfl)
theorem wm_265 : (Cond.code yX5_mixEntries cX5_mixEntries 9 (some .long)) ∈ Wall := in_Wl_11 _ (List.mem_of_getElem? (i := 1) rfl)
theorem wm_266 : (Cond.fieldLink RX5 135 "Canticle$Tally" "size" "I") ∈ Wall := in_Wl_11 _ (List.mem_of_getElem? (i := 2) rfl)
theorem wm_267 : (Cond.fieldLink RX5 140 "Canticle$Tally" "keys" "[I") ∈ Wall := in_Wl_11 _ (List.mem_of_getElem? (i := 3) rfl)
theorem wm_268 : (Cond.fieldLink RX5 149 "Canticle$Tally" "counts" "[I") ∈ Wall := in_Wl_11 _ (List.mem_of_getElem? (i := 4) rfl)
theorem wm_269 : (Cond.methodLink RX5 131 yX0_countsOf) ∈ Wall := in_Wl_11 _ (List.mem_of_getElem? (i := 5) rfl)
theorem wm_270 : (Cond.methodLink RX5 143 yX5_partOf) ∈ Wall := in_Wl_11 _ (List.mem_of_getElem? (i := 6) rfl)
theorem wm_271 : (Cond.instanceMethod yX5_partOf) ∈ Wall := in_Wl_11 _ (List.mem_of_getElem? (i := 7) rfl)
theorem wm_272 : (Cond.selects RX5 yX5_partOf yX5_partOf) ∈ Wall := in_Wl_11 _ (List.mem_of_getElem? (i := 8) rfl)
theorem wm_273 : (Cond.code yX5_partOf cX5_partOf 5 (some .int)) ∈ Wall := in_Wl_11 _ (List.mem_of_getElem? (i := 9) rfl)
theorem wm_274 : (Cond.fieldLink RX5 284 "Canticle" "POWERS" "[I") ∈ Wall := in_Wl_11 _ (List.mem_of_getElem? (i := 10) rfl)
theorem wm_275 : (Cond.methodLink RX5 154 yX5_totalBehind) ∈ Wall := in_Wl_11 _ (List.mem_of_getElem? (i := 11) rfl)
theorem wm_276 : (Cond.instanceMethod yX5_totalBehind) ∈ Wall := in_Wl_11 _ (List.mem_of_getElem? (i := 12) rfl)
theorem wm_277 : (Cond.selects RX5 yX5_totalBehind yX5_totalBehind) ∈ Wall := in_Wl_11 _ (List.mem_of_getElem? (i := 13) rfl)
theorem wm_278 : (Cond.code yX5_totalBehind cX5_totalBehind 3 (some .int)) ∈ Wall := in_Wl_11 _ (List.mem_of_getElem? (i := 14) rfl)
theorem wm_279 : (Cond.fieldLink RX5 291 "Canticle$Reckoner" "sum" "J") ∈ Wall := in_Wl_11 _ (List.mem_of_getElem? (i := 15) rfl)
theorem wm_280 : (Cond.fieldLink RX5 295 "Canticle$Reckoner" "kinds" "I") ∈ Wall := in_Wl_11 _ (List.mem_of_getElem? (i := 16) rfl)
theorem wm_281 : (Cond.methodLink RX5 287 yX1_gather) ∈ Wall := in_Wl_11 _ (List.mem_of_getElem? (i := 17) rfl)
theorem wm_282 : (Cond.instanceMethod yX1_gather) ∈ Wall := in_Wl_11 _ (List.mem_of_getElem? (i := 18) rfl)
theorem wm_283 : (Cond.selects RX1 yX1_gather yX1_gather) ∈ Wall := in_Wl_11 _ (List.mem_of_getElem? (i := 19) rfl)
theorem wm_284 : (Cond.code yX1_gather cX1_gather 6 none) ∈ Wall := in_Wl_11 _ (List.mem_of_getElem? (i := 20) rfl)
theorem wm_285 : (Cond.fieldLink RX1 79 "Canticle$Tally" "size" "I") ∈ Wall := in_Wl_11 _ (List.mem_of_getElem? (i := 21) rfl)
theorem wm_286 : (Cond.fieldLink RX1 82 "Canticle$Tally" "keys" "[I") ∈ Wall := in_Wl_11 _ (List.mem_of_getElem? (i := 22) rfl)
theorem wm_287 : (Cond.fieldLink RX1 85 "Canticle$Tally" "counts" "[I") ∈ Wall := in_Wl_11 _ (List.mem_of_getElem? (i := 23) rfl)
theorem wm_288 : (Cond.methodLink RX1 42 yJ7_fill_53178) ∈ Wall := in_Wl_12 _ (List.mem_of_getElem? (i := 0) rfl)
theorem wm_289 : (Cond.static yJ7_fill_53178) ∈ Wall := in_Wl_12 _ (List.mem_of_getElem? (i := 1) rfl)
theorem wm_290 : (Cond.initialized RJ7) ∈ Wall := in_Wl_12 _ (List.mem_of_getElem? (i := 2) rfl)
theorem wm_291 : (Cond.code yJ7_fill_53178 cJ7_fill_53178 4 none) ∈ Wall := in_Wl_12 _ (List.mem_of_getElem? (i := 3) rfl)
theorem wm_292 : (Cond.methodLink RX1 73 yX4_keysBelow) ∈ Wall := in_Wl_12 _ (List.mem_of_getElem? (i := 4) rfl)
theorem wm_293 : (Cond.methodLink RX5 263 yX5_mixChances) ∈ Wall := in_Wl_12 _ (List.mem_of_getElem? (i := 5) rfl)
theorem wm_294 : (Cond.instanceMethod yX5_mixChances) ∈ Wall := in_Wl_12 _ (List.mem_of_getElem? (i := 6) rfl)
theorem wm_295 : (Cond.selects RX5 yX5_mixChances yX5_mixChances) ∈ Wall := in_Wl_12 _ (List.mem_of_getElem? (i := 7) rfl)
theorem wm_296 : (Cond.code yX5_mixChances cX5_mixChances 6 (some .long)) ∈ Wall := in_Wl_12 _ (List.mem_of_getElem? (i := 8) rfl)
theorem wm_297 : (Cond.fieldLink RX5 186 "Canticle$Reckoner" "chances" "[I") ∈ Wall := in_Wl_12 _ (List.mem_of_getElem? (i := 9) rfl)
theorem wm_298 : (Cond.methodLink RX5 183 yX5_reckonBehindSentence) ∈ Wall := in_Wl_12 _ (List.mem_of_getElem? (i := 10) rfl)
theorem wm_299 : (Cond.instanceMethod yX5_reckonBehindSentence) ∈ Wall := in_Wl_12 _ (List.mem_of_getElem? (i := 11) rfl)
theorem wm_300 : (Cond.selects RX5 yX5_reckonBehindSentence yX5_reckonBehindSentence) ∈ Wall := in_Wl_12 _ (List.mem_of_getElem? (i := 12) rfl)
theorem wm_301 : (Cond.code yX5_reckonBehindSentence cX5_reckonBehindSentence 1 none) ∈ Wall := in_Wl_12 _ (List.mem_of_getElem? (i := 13) rfl)
theorem wm_302 : (Cond.methodLink RX5 298 yX1_reckon) ∈ Wall := in_Wl_12 _ (List.mem_of_getElem? (i := 14) rfl)
theorem wm_303 : (Cond.instanceMethod yX1_reckon) ∈ Wall := in_Wl_12 _ (List.mem_of_getElem? (i := 15) rfl)
theorem wm_304 : (Cond.selects RX1 yX1_reckon yX1_reckon) ∈ Wall := in_Wl_12 _ (List.mem_of_getElem? (i := 16) rfl)
theorem wm_305 : (Cond.code yX1_reckon cX1_reckon 4 none) ∈ Wall := in_Wl_12 _ (List.mem_of_getElem? (i := 17) rfl)
theorem wm_306 : (Cond.constant RX1 36 (1000000)) ∈ Wall := in_Wl_12 _ (List.mem_of_getElem? (i := 18) rfl)
theorem wm_307 : (Cond.fieldLink RX1 37 "Canticle$Ledger" "words" "I") ∈ Wall := in_Wl_12 _ (List.mem_of_getElem? (i := 19) rfl)
theorem wm_308 : (Cond.methodLink RX1 51 yX1_refine) ∈ Wall := in_Wl_12 _ (List.mem_of_getElem? (i := 20) rfl)
theorem wm_309 : (Cond.instanceMethod yX1_refine) ∈ Wall := in_Wl_12 _ (List.mem_of_getElem? (i := 21) rfl)
theorem wm_310 : (Cond.selects RX1 yX1_refine yX1_refine) ∈ Wall := in_Wl_12 _ (List.mem_of_getElem? (i := 22) rfl)
theorem wm_311 : (Cond.code yX1_refine cX1_refine 5 none) ∈ Wall := in_Wl_12 _ (List.mem_of_getElem? (i := 23) rfl)
theorem wm_312 : (Cond.fieldLink RX1 55 "Canticle$Ledger" "order" "I") ∈ Wall := in_Wl_13 _ (List.mem_of_getElem? (i := 0) rfl)
theorem wm_313 : (Cond.methodLink RX1 58 yX0_varietyOf) ∈ Wall := in_Wl_13 _ (List.mem_of_getElem? (i := 1) rfl)
theorem wm_314 : (Cond.methodLink RX1 62 yX0_countsOf) ∈ Wall := in_Wl_13 _ (List.mem_of_getElem? (i := 2) rfl)
theorem wm_315 : (Cond.methodLink RX1 65 yX1_gather) ∈ Wall := in_Wl_13 _ (List.mem_of_getElem? (i := 3) rfl)
theorem wm_316 : (Cond.methodLink RX1 69 yX1_blend) ∈ Wall := in_Wl_13 _ (List.mem_of_getElem? (i := 4) rfl)
theorem wm_317 : (Cond.instanceMethod yX1_blend) ∈ Wall := in_Wl_13 _ (List.mem_of_getElem? (i := 5) rfl)
theorem wm_318 : (Cond.selects RX1 yX1_blend yX1_blend) ∈ Wall := in_Wl_13 _ (List.mem_of_getElem? (i := 6) rfl)
theorem wm_319 : (Cond.code yX1_blend cX1_blend 7 (some .long)) ∈ Wall := in_Wl_13 _ (List.mem_of_getElem? (i := 7) rfl)
theorem wm_320 : (Cond.constantLong RX1 88 (1000)) ∈ Wall := in_Wl_13 _ (List.mem_of_getElem? (i := 8) rfl)
theorem wm_321 : (Cond.constantLong RX1 90 (1000000)) ∈ Wall := in_Wl_13 _ (List.mem_of_getElem? (i := 9) rfl)
theorem wm_322 : (Cond.methodLink RX1 92 Lib.MathLoose.max_long.x) ∈ Wall := in_Wl_13 _ (List.mem_of_getElem? (i := 10) rfl)
theorem wm_323 : (Cond.static Lib.MathLoose.max_long.x) ∈ Wall := in_Wl_13 _ (List.mem_of_getElem? (i := 11) rfl)
theorem wm_324 : (Cond.code Lib.MathLoose.max_long.x Lib.MathLoose.max_long.code 4 (some .long)) ∈ Wall := in_Wl_13 _ (List.mem_of_getElem? (i := 12) rfl)
theorem wm_325 : (Cond.methodLink RX5 191 yX1_withRank) ∈ Wall := in_Wl_13 _ (List.mem_of_getElem? (i := 13) rfl)
theorem wm_326 : (Cond.instanceMethod yX1_withRank) ∈ Wall := in_Wl_13 _ (List.mem_of_getElem? (i := 14) rfl)
theorem wm_327 : (Cond.selects RX1 yX1_withRank yX1_withRank) ∈ Wall := in_Wl_13 _ (List.mem_of_getElem? (i := 15) rfl)
theorem wm_328 : (Cond.code yX1_withRank cX1_withRank 3 (some .int)) ∈ Wall := in_Wl_13 _ (List.mem_of_getElem? (i := 16) rfl)
theorem wm_329 : (Cond.methodLink RX1 101 yX1_rankOf) ∈ Wall := in_Wl_13 _ (List.mem_of_getElem? (i := 17) rfl)
theorem wm_330 : (Cond.instanceMethod yX1_rankOf) ∈ Wall := in_Wl_13 _ (List.mem_of_getElem? (i := 18) rfl)
theorem wm_331 : (Cond.selects RX1 yX1_rankOf yX1_rankOf) ∈ Wall := in_Wl_13 _ (List.mem_of_getElem? (i := 19) rfl)
theorem wm_332 : (Cond.code yX1_rankOf cX1_rankOf 4 (some .int)) ∈ Wall := in_Wl_13 _ (List.mem_of_getElem? (i := 20) rfl)
theorem wm_333 : (Cond.methodLink RX1 97 yX1_isLikelier) ∈ Wall := in_Wl_13 _ (List.mem_of_getElem? (i := 21) rfl)
theorem wm_334 : (Cond.instanceMethod yX1_isLikelier) ∈ Wall := in_Wl_13 _ (List.mem_of_getElem? (i := 22) rfl)
theorem wm_335 : (Cond.selects RX1 yX1_isLikelier yX1_isLikelier) ∈ Wall := in_Wl_13 _ (List.mem_of_getElem? (i := 23) rfl)
theorem wm_336 : (Cond.code yX1_isLikelier cX1_isLikelier 3 (some .boolean)) ∈ Wall := in_Wl_14 _ (List.mem_of_getElem? (i := 0) rfl)
theorem wm_337 : (Cond.methodLink RX5 197 yX5_sumOfCosts) ∈ Wall := in_Wl_14 _ (List.mem_of_getElem? (i := 1) rfl)
theorem wm_338 : (Cond.instanceMethod yX5_sumOfCosts) ∈ Wall := in_Wl_14 _ (List.mem_of_getElem? (i := 2) rfl)
theorem wm_339 : (Cond.selects RX5 yX5_sumOfCosts yX5_sumOfCosts) ∈ Wall := in_Wl_14 _ (List.mem_of_getElem? (i := 3) rfl)
theorem wm_340 : (Cond.code yX5_sumOfCosts cX5_sumOfCosts 4 (some .int)) ∈ Wall := in_Wl_14 _ (List.mem_of_getElem? (i := 4) rfl)
theorem wm_341 : (Cond.methodLink RX5 194 yX5_cost) ∈ Wall := in_Wl_14 _ (List.mem_of_getElem? (i := 5) rfl)
theorem wm_342 : (Cond.static yX5_cost) ∈ Wall := in_Wl_14 _ (List.mem_of_getElem? (i := 6) rfl)
theorem wm_343 : (Cond.code yX5_cost cX5_cost 4 (some .int)) ∈ Wall := in_Wl_14 _ (List.mem_of_getElem? (i := 7) rfl)
theorem wm_344 : (Cond.constant RX5 309 (32768)) ∈ Wall := in_Wl_14 _ (List.mem_of_getElem? (i := 8) rfl)
theorem wm_345 : (Cond.constant RX5 163 (1000000)) ∈ Wall := in_Wl_14 _ (List.mem_of_getElem? (i := 9) rfl)
theorem wm_346 : (Cond.methodLink RL 67 yX5_ranked) ∈ Wall := in_Wl_14 _ (List.mem_of_getElem? (i := 10) rfl)
theorem wm_347 : (Cond.instanceMethod yX5_ranked) ∈ Wall := in_Wl_14 _ (List.mem_of_getElem? (i := 11) rfl)
theorem wm_348 : (Cond.selects RX5 yX5_ranked yX5_ranked) ∈ Wall := in_Wl_14 _ (List.mem_of_getElem? (i := 12) rfl)
theorem wm_349 : (Cond.code yX5_ranked cX5_ranked 2 (some .int)) ∈ Wall := in_Wl_14 _ (List.mem_of_getElem? (i := 13) rfl)
theorem wm_350 : (Cond.methodLink RL 70 yX5_chance) ∈ Wall := in_Wl_14 _ (List.mem_of_getElem? (i := 14) rfl)
theorem wm_351 : (Cond.instanceMethod yX5_chance) ∈ Wall := in_Wl_14 _ (List.mem_of_getElem? (i := 15) rfl)
theorem wm_352 : (Cond.selects RX5 yX5_chance yX5_chance) ∈ Wall := in_Wl_14 _ (List.mem_of_getElem? (i := 16) rfl)
theorem wm_353 : (Cond.code yX5_chance cX5_chance 2 (some .int)) ∈ Wall := in_Wl_14 _ (List.mem_of_getElem? (i := 17) rfl)
theorem wm_354 : (Cond.methodLink RL 77 yX5_wouldDraw) ∈ Wall := in_Wl_14 _ (List.mem_of_getElem? (i := 18) rfl)
theorem wm_355 : (Cond.instanceMethod yX5_wouldDraw) ∈ Wall := in_Wl_14 _ (List.mem_of_getElem? (i := 19) rfl)
theorem wm_356 : (Cond.selects RX5 yX5_wouldDraw yX5_wouldDraw) ∈ Wall := in_Wl_14 _ (List.mem_of_getElem? (i := 20) rfl)
theorem wm_357 : (Cond.code yX5_wouldDraw cX5_wouldDraw 1 (some .int)) ∈ Wall := in_Wl_14 _ (List.mem_of_getElem? (i := 21) rfl)
theorem wm_358 : (Cond.methodLink RX5 244 yX5_luckBehind) ∈ Wall := in_Wl_14 _ (List.mem_of_getElem? (i := 22) rfl)
theorem wm_359 : (Cond.static yX5_luckBehind) ∈ Wall := in_Wl_14 _ (List.mem_of_getElem? (i := 23) rfl)
theorem wm_360 : (Cond.code yX5_luckBehind cX5_luckBehind 1 (some .int)) ∈ Wall := in_Wl_15 _ (List.mem_of_getElem? (i := 0) rfl)
theorem wm_361 : (Cond.methodLink RX5 247 yX5_allOutcomes) ∈ Wall := in_Wl_15 _ (List.mem_of_getElem? (i := 1) rfl)
theorem wm_362 : (Cond.instanceMethod yX5_allOutcomes) ∈ Wall := in_Wl_15 _ (List.mem_of_getElem? (i := 2) rfl)
theorem wm_363 : (Cond.selects RX5 yX5_allOutcomes yX5_allOutcomes) ∈ Wall := in_Wl_15 _ (List.mem_of_getElem? (i := 3) rfl)
theorem wm_364 : (Cond.code yX5_allOutcomes cX5_allOutcomes 1 (some .int)) ∈ Wall := in_Wl_15 _ (List.mem_of_getElem? (i := 4) rfl)
theorem wm_365 : (Cond.methodLink RX5 250 yX1_pick) ∈ Wall := in_Wl_15 _ (List.mem_of_getElem? (i := 5) rfl)
theorem wm_366 : (Cond.instanceMethod yX1_pick) ∈ Wall := in_Wl_15 _ (List.mem_of_getElem? (i := 6) rfl)
theorem wm_367 : (Cond.selects RX1 yX1_pick yX1_pick) ∈ Wall := in_Wl_15 _ (List.mem_of_getElem? (i := 7) rfl)
theorem wm_368 : (Cond.code yX1_pick cX1_pick 11 (some .int)) ∈ Wall := in_Wl_15 _ (List.mem_of_getElem? (i := 8) rfl)
theorem wm_369 : (Cond.constantLong RX1 104 (10000)) ∈ Wall := in_Wl_15 _ (List.mem_of_getElem? (i := 9) rfl)
theorem wm_370 : (Cond.methodLink RL 80 yX5_scoreBy) ∈ Wall := in_Wl_15 _ (List.mem_of_getElem? (i := 10) rfl)
theorem wm_371 : (Cond.instanceMethod yX5_scoreBy) ∈ Wall := in_Wl_15 _ (List.mem_of_getElem? (i := 11) rfl)
theorem wm_372 : (Cond.selects RX5 yX5_scoreBy yX5_scoreBy) ∈ Wall := in_Wl_15 _ (List.mem_of_getElem? (i := 12) rfl)
theorem wm_373 : (Cond.code yX5_scoreBy cX5_scoreBy 6 (some .int)) ∈ Wall := in_Wl_15 _ (List.mem_of_getElem? (i := 13) rfl)
theorem wm_374 : (Cond.methodLink RL 83 yX5_score) ∈ Wall := in_Wl_15 _ (List.mem_of_getElem? (i := 14) rfl)
theorem wm_375 : (Cond.instanceMethod yX5_score) ∈ Wall := in_Wl_15 _ (List.mem_of_getElem? (i := 15) rfl)
theorem wm_376 : (Cond.selects RX5 yX5_score yX5_score) ∈ Wall := in_Wl_15 _ (List.mem_of_getElem? (i := 16) rfl)
theorem wm_377 : (Cond.code yX5_score cX5_score 1 (some .int)) ∈ Wall := in_Wl_15 _ (List.mem_of_getElem? (i := 17) rfl)
theorem wm_378 : (Cond.methodLink RL 86 yX5_costOf) ∈ Wall := in_Wl_15 _ (List.mem_of_getElem? (i := 18) rfl)
theorem wm_379 : (Cond.instanceMethod yX5_costOf) ∈ Wall := in_Wl_15 _ (List.mem_of_getElem? (i := 19) rfl)
theorem wm_380 : (Cond.selects RX5 yX5_costOf yX5_costOf) ∈ Wall := in_Wl_15 _ (List.mem_of_getElem? (i := 20) rfl)
theorem wm_381 : (Cond.code yX5_costOf cX5_costOf 2 (some .int)) ∈ Wall := in_Wl_15 _ (List.mem_of_getElem? (i := 21) rfl)
theorem wm_382 : (Cond.methodLink RL 89 yX5_meanCost) ∈ Wall := in_Wl_15 _ (List.mem_of_getElem? (i := 22) rfl)
theorem wm_383 : (Cond.instanceMethod yX5_meanCost) ∈ Wall := in_Wl_15 _ (List.mem_of_getElem? (i := 23) rfl)
theorem wm_384 : (Cond.selects RX5 yX5_meanCost yX5_meanCost) ∈ Wall := in_Wl_16 _ (List.mem_of_getElem? (i := 0) rfl)
theorem wm_385 : (Cond.code yX5_meanCost cX5_meanCost 1 (some .double)) ∈ Wall := in_Wl_16 _ (List.mem_of_getElem? (i := 1) rfl)
theorem wm_386 : (Cond.methodLink RL 93 yX5_unlearn) ∈ Wall := in_Wl_16 _ (List.mem_of_getElem? (i := 2) rfl)
theorem wm_387 : (Cond.instanceMethod yX5_unlearn) ∈ Wall := in_Wl_16 _ (List.mem_of_getElem? (i := 3) rfl)
theorem wm_388 : (Cond.selects RX5 yX5_unlearn yX5_unlearn) ∈ Wall := in_Wl_16 _ (List.mem_of_getElem? (i := 4) rfl)
theorem wm_389 : (Cond.code yX5_unlearn cX5_unlearn 1 (some .int)) ∈ Wall := in_Wl_16 _ (List.mem_of_getElem? (i := 5) rfl)
theorem wm_390 : (Cond.methodLink RX5 118 yX5_canTakeSentence) ∈ Wall := in_Wl_16 _ (List.mem_of_getElem? (i := 6) rfl)
theorem wm_391 : (Cond.instanceMethod yX5_canTakeSentence) ∈ Wall := in_Wl_16 _ (List.mem_of_getElem? (i := 7) rfl)
theorem wm_392 : (Cond.selects RX5 yX5_canTakeSentence yX5_canTakeSentence) ∈ Wall := in_Wl_16 _ (List.mem_of_getElem? (i := 8) rfl)
theorem wm_393 : (Cond.code yX5_canTakeSentence cX5_canTakeSentence 4 (some .boolean)) ∈ Wall := in_Wl_16 _ (List.mem_of_getElem? (i := 9) rfl)
theorem wm_394 : (Cond.methodLink RX5 278 yX4_numberOf) ∈ Wall := in_Wl_16 _ (List.mem_of_getElem? (i := 10) rfl)
theorem wm_395 : (Cond.instanceMethod yX4_numberOf) ∈ Wall := in_Wl_16 _ (List.mem_of_getElem? (i := 11) rfl)
theorem wm_396 : (Cond.selects RX4 yX4_numberOf yX4_numberOf) ∈ Wall := in_Wl_16 _ (List.mem_of_getElem? (i := 12) rfl)
theorem wm_397 : (Cond.code yX4_numberOf cX4_numberOf 3 (some .int)) ∈ Wall := in_Wl_16 _ (List.mem_of_getElem? (i := 13) rfl)
theorem wm_398 : (Cond.methodLink RX5 281 yX5_timesInSentence) ∈ Wall := in_Wl_16 _ (List.mem_of_getElem? (i := 14) rfl)
theorem wm_399 : (Cond.instanceMethod yX5_timesInSentence) ∈ Wall := in_Wl_16 _ (List.mem_of_getElem? (i := 15) rfl)
theorem wm_400 : (Cond.selects RX5 yX5_timesInSentence yX5_timesInSentence) ∈ Wall := in_Wl_16 _ (List.mem_of_getElem? (i := 16) rfl)
theorem wm_401 : (Cond.code yX5_timesInSentence cX5_timesInSentence 5 (some .int)) ∈ Wall := in_Wl_16 _ (List.mem_of_getElem? (i := 17) rfl)
theorem wm_402 : (Cond.methodLink RL 96 yX5_scoreLearned) ∈ Wall := in_Wl_16 _ (List.mem_of_getElem? (i := 18) rfl)
theorem wm_403 : (Cond.instanceMethod yX5_scoreLearned) ∈ Wall := in_Wl_16 _ (List.mem_of_getElem? (i := 19) rfl)
theorem wm_404 : (Cond.selects RX5 yX5_scoreLearned yX5_scoreLearned) ∈ Wall := in_Wl_16 _ (List.mem_of_getElem? (i := 20) rfl)
theorem wm_405 : (Cond.code yX5_scoreLearned cX5_scoreLearned 3 (some .int)) ∈ Wall := in_Wl_16 _ (List.mem_of_getElem? (i := 21) rfl)
theorem wm_406 : (Cond.methodLink RL 99 yX5_complete) ∈ Wall := in_Wl_16 _ (List.mem_of_getElem? (i := 22) rfl)
theorem wm_407 : (Cond.instanceMethod yX5_complete) ∈ Wall := in_Wl_16 _ (List.mem_of_getElem? (i := 23) rfl)
theorem wm_408 : (Cond.selects RX5 yX5_complete yX5_complete) ∈ Wall := in_Wl_17 _ (List.mem_of_getElem? (i := 0) rfl)
theorem wm_409 : (Cond.code yX5_complete cX5_complete 6 (some .int)) ∈ Wall := in_Wl_17 _ (List.mem_of_getElem? (i := 1) rfl)
theorem wm_410 : (Cond.methodLink RX5 205 yX3_choose) ∈ Wall := in_Wl_17 _ (List.mem_of_getElem? (i := 2) rfl)
theorem wm_411 : (Cond.instanceMethod yX3_choose) ∈ Wall := in_Wl_17 _ (List.mem_of_getElem? (i := 3) rfl)
theorem wm_412 : (Cond.selects RX3 yX3_choose yX3_choose) ∈ Wall := in_Wl_17 _ (List.mem_of_getElem? (i := 4) rfl)
theorem wm_413 : (Cond.code yX3_choose cX3_choose 5 none) ∈ Wall := in_Wl_17 _ (List.mem_of_getElem? (i := 5) rfl)
theorem wm_414 : (Cond.fieldLink RX3 42 "Canticle$Ledger" "words" "I") ∈ Wall := in_Wl_17 _ (List.mem_of_getElem? (i := 6) rfl)
theorem wm_415 : (Cond.fieldLink RX3 48 "Canticle$Ledger" "order" "I") ∈ Wall := in_Wl_17 _ (List.mem_of_getElem? (i := 7) rfl)
theorem wm_416 : (Cond.methodLink RX3 34 yX3_fillCosts) ∈ Wall := in_Wl_17 _ (List.mem_of_getElem? (i := 8) rfl)
theorem wm_417 : (Cond.instanceMethod yX3_fillCosts) ∈ Wall := in_Wl_17 _ (List.mem_of_getElem? (i := 9) rfl)
theorem wm_418 : (Cond.selects RX3 yX3_fillCosts yX3_fillCosts) ∈ Wall := in_Wl_17 _ (List.mem_of_getElem? (i := 10) rfl)
theorem wm_419 : (Cond.code yX3_fillCosts cX3_fillCosts 8 none) ∈ Wall := in_Wl_17 _ (List.mem_of_getElem? (i := 11) rfl)
theorem wm_420 : (Cond.fieldLink RX3 78 "Canticle$Reckoner" "chances" "[I") ∈ Wall := in_Wl_17 _ (List.mem_of_getElem? (i := 12) rfl)
theorem wm_421 : (Cond.methodLink RX3 61 yX3_placesAt) ∈ Wall := in_Wl_17 _ (List.mem_of_getElem? (i := 13) rfl)
theorem wm_422 : (Cond.instanceMethod yX3_placesAt) ∈ Wall := in_Wl_17 _ (List.mem_of_getElem? (i := 14) rfl)
theorem wm_423 : (Cond.selects RX3 yX3_placesAt yX3_placesAt) ∈ Wall := in_Wl_17 _ (List.mem_of_getElem? (i := 15) rfl)
theorem wm_424 : (Cond.code yX3_placesAt cX3_placesAt 2 (some .int)) ∈ Wall := in_Wl_17 _ (List.mem_of_getElem? (i := 16) rfl)
theorem wm_425 : (Cond.methodLink RX3 55 Lib.Math.min.name) ∈ Wall := in_Wl_17 _ (List.mem_of_getElem? (i := 17) rfl)
theorem wm_426 : (Cond.methodLink RX3 38 yX3_statesAt) ∈ Wall := in_Wl_17 _ (List.mem_of_getElem? (i := 18) rfl)
theorem wm_427 : (Cond.instanceMethod yX3_statesAt) ∈ Wall := in_Wl_17 _ (List.mem_of_getElem? (i := 19) rfl)
theorem wm_428 : (Cond.selects RX3 yX3_statesAt yX3_statesAt) ∈ Wall := in_Wl_17 _ (List.mem_of_getElem? (i := 20) rfl)
theorem wm_429 : (Cond.code yX3_statesAt cX3_statesAt 4 (some .int)) ∈ Wall := in_Wl_17 _ (List.mem_of_getElem? (i := 21) rfl)
theorem wm_430 : (Cond.methodLink RX3 64 Lib.Math.max.name) ∈ Wall := in_Wl_17 _ (List.mem_of_getElem? (i := 22) rfl)
theorem wm_431 : (Cond.methodLink RX3 70 yX3_keyOf) ∈ Wall := in_Wl_17 _ (List.mem_of_getElem? (i := 23) rfl)
theorem wm_432 : (Cond.instanceMethod yX3_keyOf) ∈ Wall := in_Wl_18 _ (List.mem_of_getElem? (i := 0) rfl)
theorem wm_433 : (Cond.selects RX3 yX3_keyOf yX3_keyOf) ∈ Wall := in_Wl_18 _ (List.mem_of_getElem? (i := 1) rfl)
theorem wm_434 : (Cond.code yX3_keyOf cX3_keyOf 7 (some .int)) ∈ Wall := in_Wl_18 _ (List.mem_of_getElem? (i := 2) rfl)
theorem wm_435 : (Cond.methodLink RX3 73 yX1_reckon) ∈ Wall := in_Wl_18 _ (List.mem_of_getElem? (i := 3) rfl)
theorem wm_436 : (Cond.methodLink RX3 51 yX3_chooseAt) ∈ Wall := in_Wl_18 _ (List.mem_of_getElem? (i := 4) rfl)
theorem wm_437 : (Cond.instanceMethod yX3_chooseAt) ∈ Wall := in_Wl_18 _ (List.mem_of_getElem? (i := 5) rfl)
theorem wm_438 : (Cond.selects RX3 yX3_chooseAt yX3_chooseAt) ∈ Wall := in_Wl_18 _ (List.mem_of_getElem? (i := 6) rfl)
theorem wm_439 : (Cond.code yX3_chooseAt cX3_chooseAt 11 none) ∈ Wall := in_Wl_18 _ (List.mem_of_getElem? (i := 7) rfl)
theorem wm_440 : (Cond.methodLink RX5 209 yX3_choiceAt) ∈ Wall := in_Wl_18 _ (List.mem_of_getElem? (i := 8) rfl)
theorem wm_441 : (Cond.instanceMethod yX3_choiceAt) ∈ Wall := in_Wl_18 _ (List.mem_of_getElem? (i := 9) rfl)
theorem wm_442 : (Cond.selects RX3 yX3_choiceAt yX3_choiceAt) ∈ Wall := in_Wl_18 _ (List.mem_of_getElem? (i := 10) rfl)
theorem wm_443 : (Cond.code yX3_choiceAt cX3_choiceAt 3 (some .int)) ∈ Wall := in_Wl_18 _ (List.mem_of_getElem? (i := 11) rfl)
theorem wm_444 : (Cond.methodLink RX5 212 yX3_stateBehind) ∈ Wall := in_Wl_18 _ (List.mem_of_getElem? (i := 12) rfl)
theorem wm_445 : (Cond.instanceMethod yX3_stateBehind) ∈ Wall := in_Wl_18 _ (List.mem_of_getElem? (i := 13) rfl)
theorem wm_446 : (Cond.selects RX3 yX3_stateBehind yX3_stateBehind) ∈ Wall := in_Wl_18 _ (List.mem_of_getElem? (i := 14) rfl)
theorem wm_447 : (Cond.code yX3_stateBehind cX3_stateBehind 4 (some .int)) ∈ Wall := in_Wl_18 _ (List.mem_of_getElem? (i := 15) rfl)
theorem wm_448 : (Cond.methodLink RL 102 yX5_length) ∈ Wall := in_Wl_18 _ (List.mem_of_getElem? (i := 16) rfl)
theorem wm_449 : (Cond.instanceMethod yX5_length) ∈ Wall := in_Wl_18 _ (List.mem_of_getElem? (i := 17) rfl)
theorem wm_450 : (Cond.selects RX5 yX5_length yX5_length) ∈ Wall := in_Wl_18 _ (List.mem_of_getElem? (i := 18) rfl)
theorem wm_451 : (Cond.code yX5_length cX5_length 1 (some .int)) ∈ Wall := in_Wl_18 _ (List.mem_of_getElem? (i := 19) rfl)
theorem wm_452 : (Cond.methodLink RL 105 yX5_wordAt) ∈ Wall := in_Wl_18 _ (List.mem_of_getElem? (i := 20) rfl)
theorem wm_453 : (Cond.instanceMethod yX5_wordAt) ∈ Wall := in_Wl_18 _ (List.mem_of_getElem? (i := 21) rfl)
theorem wm_454 : (Cond.selects RX5 yX5_wordAt yX5_wordAt) ∈ Wall := in_Wl_18 _ (List.mem_of_getElem? (i := 22) rfl)
theorem wm_455 : (Cond.code yX5_wordAt cX5_wordAt 2 (some .int)) ∈ Wall := in_Wl_18 _ (List.mem_of_getElem? (i := 23) rfl)
theorem wm_456 : (Cond.methodLink RL 108 yX5_entries) ∈ Wall := in_Wl_19 _ (List.mem_of_getElem? (i := 0) rfl)
theorem wm_457 : (Cond.instanceMethod yX5_entries) ∈ Wall := in_Wl_19 _ (List.mem_of_getElem? (i := 1) rfl)
theorem wm_458 : (Cond.selects RX5 yX5_entries yX5_entries) ∈ Wall := in_Wl_19 _ (List.mem_of_getElem? (i := 2) rfl)
theorem wm_459 : (Cond.code yX5_entries cX5_entries 2 (some .int)) ∈ Wall := in_Wl_19 _ (List.mem_of_getElem? (i := 3) rfl)
theorem wm_460 : (Cond.methodLink RX5 126 yX5_isOrder) ∈ Wall := in_Wl_19 _ (List.mem_of_getElem? (i := 4) rfl)
theorem wm_461 : (Cond.instanceMethod yX5_isOrder) ∈ Wall := in_Wl_19 _ (List.mem_of_getElem? (i := 5) rfl)
theorem wm_462 : (Cond.selects RX5 yX5_isOrder yX5_isOrder) ∈ Wall := in_Wl_19 _ (List.mem_of_getElem? (i := 6) rfl)
theorem wm_463 : (Cond.code yX5_isOrder cX5_isOrder 2 (some .boolean)) ∈ Wall := in_Wl_19 _ (List.mem_of_getElem? (i := 7) rfl)
theorem wm_464 : (Cond.methodLink RL 111 yX5_prune) ∈ Wall := in_Wl_19 _ (List.mem_of_getElem? (i := 8) rfl)
theorem wm_465 : (Cond.instanceMethod yX5_prune) ∈ Wall := in_Wl_19 _ (List.mem_of_getElem? (i := 9) rfl)
theorem wm_466 : (Cond.selects RX5 yX5_prune yX5_prune) ∈ Wall := in_Wl_19 _ (List.mem_of_getElem? (i := 10) rfl)
theorem wm_467 : (Cond.code yX5_prune cX5_prune 5 (some .int)) ∈ Wall := in_Wl_19 _ (List.mem_of_getElem? (i := 11) rfl)
theorem wm_468 : (Cond.methodLink RX5 160 yX5_dropDoomed) ∈ Wall := in_Wl_19 _ (List.mem_of_getElem? (i := 12) rfl)
theorem wm_469 : (Cond.instanceMethod yX5_dropDoomed) ∈ Wall := in_Wl_19 _ (List.mem_of_getElem? (i := 13) rfl)
theorem wm_470 : (Cond.selects RX5 yX5_dropDoomed yX5_dropDoomed) ∈ Wall := in_Wl_19 _ (List.mem_of_getElem? (i := 14) rfl)
theorem wm_471 : (Cond.code yX5_dropDoomed cX5_dropDoomed 4 (some .int)) ∈ Wall := in_Wl_19 _ (List.mem_of_getElem? (i := 15) rfl)
theorem wm_472 : (Cond.methodLink RX5 306 yX0_drop) ∈ Wall := in_Wl_19 _ (List.mem_of_getElem? (i := 16) rfl)
theorem wm_473 : (Cond.instanceMethod yX0_drop) ∈ Wall := in_Wl_19 _ (List.mem_of_getElem? (i := 17) rfl)
theorem wm_474 : (Cond.selects RX0 yX0_drop yX0_drop) ∈ Wall := in_Wl_19 _ (List.mem_of_getElem? (i := 18) rfl)
theorem wm_475 : (Cond.code yX0_drop cX0_drop 5 none) ∈ Wall := in_Wl_19 _ (List.mem_of_getElem? (i := 19) rfl)
theorem wm_476 : (Cond.fieldLink RX0 62 "Canticle$Tally" "keys" "[I") ∈ Wall := in_Wl_19 _ (List.mem_of_getElem? (i := 20) rfl)
theorem wm_477 : (Cond.methodLink RX0 65 yX4_removeAt) ∈ Wall := in_Wl_19 _ (List.mem_of_getElem? (i := 21) rfl)
theorem wm_478 : (Cond.methodLink RL 114 yX5_ofContext) ∈ Wall := in_Wl_19 _ (List.mem_of_getElem? (i := 22) rfl)
theorem wm_479 : (Cond.instanceMethod yX5_ofContext) ∈ Wall := in_Wl_19 _ (List.mem_of_getElem? (i := 23) rfl)
theorem wm_480 : (Cond.selects RX5 yX5_ofContext yX5_ofContext) ∈ Wall := in_Wl_20 _ (List.mem_of_getElem? (i := 0) rfl)
theorem wm_481 : (Cond.code yX5_ofContext cX5_ofContext 3 (some .int)) ∈ Wall := in_Wl_20 _ (List.mem_of_getElem? (i := 1) rfl)
theorem wm_482 : (Cond.methodLink RL 117 yX5_addStep) ∈ Wall := in_Wl_20 _ (List.mem_of_getElem? (i := 2) rfl)
theorem wm_483 : (Cond.instanceMethod yX5_addStep) ∈ Wall := in_Wl_20 _ (List.mem_of_getElem? (i := 3) rfl)
theorem wm_484 : (Cond.selects RX5 yX5_addStep yX5_addStep) ∈ Wall := in_Wl_20 _ (List.mem_of_getElem? (i := 4) rfl)
theorem wm_485 : (Cond.code yX5_addStep cX5_addStep 3 (some .int)) ∈ Wall := in_Wl_20 _ (List.mem_of_getElem? (i := 5) rfl)
theorem wm_486 : (Cond.fieldLink RX5 222 "Canticle$Script" "size" "I") ∈ Wall := in_Wl_20 _ (List.mem_of_getElem? (i := 6) rfl)
theorem wm_487 : (Cond.methodLink RX5 217 yX5_isStep) ∈ Wall := in_Wl_20 _ (List.mem_of_getElem? (i := 7) rfl)
theorem wm_488 : (Cond.instanceMethod yX5_isStep) ∈ Wall := in_Wl_20 _ (List.mem_of_getElem? (i := 8) rfl)
theorem wm_489 : (Cond.selects RX5 yX5_isStep yX5_isStep) ∈ Wall := in_Wl_20 _ (List.mem_of_getElem? (i := 9) rfl)
theorem wm_490 : (Cond.code yX5_isStep cX5_isStep 3 (some .boolean)) ∈ Wall := in_Wl_20 _ (List.mem_of_getElem? (i := 10) rfl)
theorem wm_491 : (Cond.methodLink RX5 225 yX2_append) ∈ Wall := in_Wl_20 _ (List.mem_of_getElem? (i := 11) rfl)
theorem wm_492 : (Cond.instanceMethod yX2_append) ∈ Wall := in_Wl_20 _ (List.mem_of_getElem? (i := 12) rfl)
theorem wm_493 : (Cond.selects RX2 yX2_append yX2_append) ∈ Wall := in_Wl_20 _ (List.mem_of_getElem? (i := 13) rfl)
theorem wm_494 : (Cond.code yX2_append cX2_append 3 (some .int)) ∈ Wall := in_Wl_20 _ (List.mem_of_getElem? (i := 14) rfl)
theorem wm_495 : (Cond.methodLink RL 120 yX5_runScript) ∈ Wall := in_Wl_20 _ (List.mem_of_getElem? (i := 15) rfl)
theorem wm_496 : (Cond.instanceMethod yX5_runScript) ∈ Wall := in_Wl_20 _ (List.mem_of_getElem? (i := 16) rfl)
theorem wm_497 : (Cond.selects RX5 yX5_runScript yX5_runScript) ∈ Wall := in_Wl_20 _ (List.mem_of_getElem? (i := 17) rfl)
theorem wm_498 : (Cond.code yX5_runScript cX5_runScript 3 (some .int)) ∈ Wall := in_Wl_20 _ (List.mem_of_getElem? (i := 18) rfl)
theorem wm_499 : (Cond.fieldLink RX5 232 "Canticle$Script" "codes" "[I") ∈ Wall := in_Wl_20 _ (List.mem_of_getElem? (i := 19) rfl)
theorem wm_500 : (Cond.fieldLink RX5 238 "Canticle$Script" "numbers" "[I") ∈ Wall := in_Wl_20 _ (List.mem_of_getElem? (i := 20) rfl)
theorem wm_501 : (Cond.methodLink RX5 229 yX2_forgetReturns) ∈ Wall := in_Wl_20 _ (List.mem_of_getElem? (i := 21) rfl)
theorem wm_502 : (Cond.instanceMethod yX2_forgetReturns) ∈ Wall := in_Wl_20 _ (List.mem_of_getElem? (i := 22) rfl)
theorem wm_503 : (Cond.selects RX2 yX2_forgetReturns yX2_forgetReturns) ∈ Wall := in_Wl_20 _ (List.mem_of_getElem? (i := 23) rfl)
theorem wm_504 : (Cond.code yX2_forgetReturns cX2_forgetReturns 1 none) ∈ Wall := in_Wl_21 _ (List.mem_of_getElem? (i := 0) rfl)
theorem wm_505 : (Cond.methodLink RX2 25 yJ7_fill_53178) ∈ Wall := in_Wl_21 _ (List.mem_of_getElem? (i := 1) rfl)
theorem wm_506 : (Cond.methodLink RX5 235 yX2_placeBehindReturn) ∈ Wall := in_Wl_21 _ (List.mem_of_getElem? (i := 2) rfl)
theorem wm_507 : (Cond.instanceMethod yX2_placeBehindReturn) ∈ Wall := in_Wl_21 _ (List.mem_of_getElem? (i := 3) rfl)
theorem wm_508 : (Cond.selects RX2 yX2_placeBehindReturn yX2_placeBehindReturn) ∈ Wall := in_Wl_21 _ (List.mem_of_getElem? (i := 4) rfl)
theorem wm_509 : (Cond.code yX2_placeBehindReturn cX2_placeBehindReturn 2 (some .int)) ∈ Wall := in_Wl_21 _ (List.mem_of_getElem? (i := 5) rfl)
theorem wm_510 : (Cond.methodLink RX5 241 yX5_takeByStep) ∈ Wall := in_Wl_21 _ (List.mem_of_getElem? (i := 6) rfl)
theorem wm_511 : (Cond.instanceMethod yX5_takeByStep) ∈ Wall := in_Wl_21 _ (List.mem_of_getElem? (i := 7) rfl)
theorem wm_512 : (Cond.selects RX5 yX5_takeByStep yX5_takeByStep) ∈ Wall := in_Wl_21 _ (List.mem_of_getElem? (i := 8) rfl)
theorem wm_513 : (Cond.code yX5_takeByStep cX5_takeByStep 4 none) ∈ Wall := in_Wl_21 _ (List.mem_of_getElem? (i := 9) rfl)
theorem wm_514 : (Cond.methodLink RX5 310 yX5_outcomeOf) ∈ Wall := in_Wl_21 _ (List.mem_of_getElem? (i := 10) rfl)
theorem wm_515 : (Cond.instanceMethod yX5_outcomeOf) ∈ Wall := in_Wl_21 _ (List.mem_of_getElem? (i := 11) rfl)
theorem wm_516 : (Cond.selects RX5 yX5_outcomeOf yX5_outcomeOf) ∈ Wall := in_Wl_21 _ (List.mem_of_getElem? (i := 12) rfl)
theorem wm_517 : (Cond.code yX5_outcomeOf cX5_outcomeOf 3 (some .int)) ∈ Wall := in_Wl_21 _ (List.mem_of_getElem? (i := 13) rfl)
theorem wm_518 : (Cond.methodLink RX5 313 yX1_likeliest) ∈ Wall := in_Wl_21 _ (List.mem_of_getElem? (i := 14) rfl)
theorem wm_519 : (Cond.instanceMethod yX1_likeliest) ∈ Wall := in_Wl_21 _ (List.mem_of_getElem? (i := 15) rfl)
theorem wm_520 : (Cond.selects RX1 yX1_likeliest yX1_likeliest) ∈ Wall := in_Wl_21 _ (List.mem_of_getElem? (i := 16) rfl)
theorem wm_521 : (Cond.code yX1_likeliest cX1_likeliest 4 (some .int)) ∈ Wall := in_Wl_21 _ (List.mem_of_getElem? (i := 17) rfl)
theorem wm_522 : (Cond.methodLink RX5 316 yX5_draw) ∈ Wall := in_Wl_21 _ (List.mem_of_getElem? (i := 18) rfl)
theorem wm_523 : (Cond.instanceMethod yX5_draw) ∈ Wall := in_Wl_21 _ (List.mem_of_getElem? (i := 19) rfl)
theorem wm_524 : (Cond.selects RX5 yX5_draw yX5_draw) ∈ Wall := in_Wl_21 _ (List.mem_of_getElem? (i := 20) rfl)
theorem wm_525 : (Cond.code yX5_draw cX5_draw 2 (some .int)) ∈ Wall := in_Wl_21 _ (List.mem_of_getElem? (i := 21) rfl)
theorem wm_526 : (Cond.methodLink RL 123 yX5_hasEnded) ∈ Wall := in_Wl_21 _ (List.mem_of_getElem? (i := 22) rfl)
theorem wm_527 : (Cond.instanceMethod yX5_hasEnded) ∈ Wall := in_Wl_21 _ (List.mem_of_getElem? (i := 23) rfl)
theorem wm_528 : (Cond.selects RX5 yX5_hasEnded yX5_hasEnded) ∈ Wall := in_Wl_22 _ (List.mem_of_getElem? (i := 0) rfl)
theorem wm_529 : (Cond.code yX5_hasEnded cX5_hasEnded 1 (some .boolean)) ∈ Wall := in_Wl_22 _ (List.mem_of_getElem? (i := 1) rfl)
theorem wi_X0 : ∀ w ∈ u_ws RX0 TX0 4, w ∈ Wall := in_wsX00
theorem wi_X1 : ∀ w ∈ u_ws RX1 TX1 7, w ∈ Wall := in_wsX10
theorem wi_X2 : ∀ w ∈ u_ws RX2 TX2 4, w ∈ Wall := in_wsX20
theorem wi_X3 : ∀ w ∈ u_ws RX3 TX3 6, w ∈ Wall := in_wsX30
theorem wi_X4 : ∀ w ∈ u_ws RX4 TX4 3, w ∈ Wall := in_wsX40
theorem wi_X5 : ∀ w ∈ u_ws RX5 TX5 10, w ∈ Wall := in_wsX50
theorem wi_X6 : ∀ w ∈ u_ws RX6 TX6 4, w ∈ Wall := in_wsX60
end
section
/-! OUR OWN JUDGEMENT. A method is walked over a world 'Wx u' (cells, how many were made, how many slots) that is read off a state u; all else of the machine is hidden in Γ. Ints are written 'iI z', longs 'lI z', z an integer. -/
def iI (z : Int) : Int32 := Int32.ofInt z
def lI (z : Int) : Int64 := Int64.ofInt z
theorem iI_toInt {z : Int} (h : -2147483648 ≤ z ∧ z < 2147483648) : (iI z).toInt = z := by
  unfold iI; rw [Int32.toInt_ofInt]; simp only [Int.bmod_def, Int32.size]; omega
theorem lI_toInt {z : Int} (h : -9223372036854775808 ≤ z ∧ z < 9223372036854775808) : (lI z).toInt = z := by
  unfold lI; rw [Int64.toInt_ofInt]; simp only [Int.bmod_def, Int64.size]; omega
theorem iI_add (a b : Int) : iI a + iI b = iI (a + b) := (Int32.ofInt_add a b).symm
theorem iI_sub (a b : Int) : iI a - iI b = iI (a - b) := (Int32.ofInt_sub a b).symm
theorem iI_mul (a b : Int) : iI a * iI b = iI (a * b) := (Int32.ofInt_mul a b).symm
theorem lI_add (a b : Int) : lI a + lI b = lI (a + b) := (Int64.ofInt_add a b).symm
theorem lI_sub (a b : Int) : lI a - lI b = lI (a - b) := (Int64.ofInt_sub a b).symm
theorem lI_mul (a b : Int) : lI a * lI b = lI (a * b) := (Int64.ofInt_mul a b).symm
theorem iI_lt {a b : Int} (ha : -2147483648 ≤ a ∧ a < 2147483648) (hb : -2147483648 ≤ b ∧ b < 2147483648) : iI a < iI b ↔ a < b := by rw [Int32.lt_iff_toInt_lt, iI_toInt ha, iI_toInt hb]
theorem iI_le {a b : Int} (ha : -2147483648 ≤ a ∧ a < 2147483648) (hb : -2147483648 ≤ b ∧ b < 2147483648) : iI a ≤ iI b ↔ a ≤ b := by rw [Int32.le_iff_toInt_le, iI_toInt ha, iI_toInt hb]
theorem iI_eq {a b : Int} (ha : -2147483648 ≤ a ∧ a < 2147483648) (hb : -2147483648 ≤ b ∧ b < 2147483648) : iI a = iI b ↔ a = b := by rw [← Int32.toInt_inj, iI_toInt ha, iI_toInt hb]
theorem lI_lt {a b : Int} (ha : -9223372036854775808 ≤ a ∧ a < 9223372036854775808) (hb : -9223372036854775808 ≤ b ∧ b < 9223372036854775808) : lI a < lI b ↔ a < b := by rw [Int64.lt_iff_toInt_lt, lI_toInt ha, lI_toInt hb]
theorem lI_le {a b : Int} (ha : -9223372036854775808 ≤ a ∧ a < 9223372036854775808) (hb : -9223372036854775808 ≤ b ∧ b < 9223372036854775808) : lI a ≤ lI b ↔ a ≤ b := by rw [Int64.le_iff_toInt_le, lI_toInt ha, lI_toInt hb]
theorem lI_eq {a b : Int} (ha : -9223372036854775808 ≤ a ∧ a < 9223372036854775808) (hb : -9223372036854775808 ≤ b ∧ b < 9223372036854775808) : lI a = lI b ↔ a = b := by rw [← Int64.toInt_inj, lI_toInt ha, lI_toInt hb]
theorem iI_nat (n : Nat) : iI (n : Int) = nI n := rfl
theorem lI_nat (n : Nat) : lI (n : Int) = lN n := rfl
theorem iI_nat' {z : Int} (h : 0 ≤ z) : iI z = nI z.toNat := by
  conv => lhs; rw [← Int.toNat_of_nonneg h]
  rfl
theorem lI_nat' {z : Int} (h : 0 ≤ z) : lI z = lN z.toNat := by
  conv => lhs; rw [← Int.toNat_of_nonneg h]
  rfl
theorem iI_clamp {z : Int} (h0 : 0 ≤ z) (h1 : z < 2147483648) : (iI z).toNatClampNeg = z.toNat := by
  rw [iI_nat' h0]; exact nI_clamp (by omega)
theorem iI_in {z : Int} {n : Nat} (h0 : 0 ≤ z ∧ z < n) (hn : n < 2147483648) : vp_in (iI z) n := by
  rw [vp_in_iff, iI_toInt (by omega)]; omega
theorem iI_div {a b : Int} (ha : 0 ≤ a ∧ a < 2147483648) (hb : 0 < b ∧ b < 2147483648) : iI a / iI b = iI (a / b) := by
  rw [iI_nat' ha.1, iI_nat' (Int.le_of_lt hb.1), pk_div (by omega) (by omega) (by omega)]
  rw [← iI_nat, Int.natCast_ediv, Int.toNat_of_nonneg ha.1, Int.toNat_of_nonneg (Int.le_of_lt hb.1)]
theorem iI_rem {a b : Int} (ha : 0 ≤ a ∧ a < 2147483648) (hb : 0 < b ∧ b < 2147483648) : iI a - iI a / iI b * iI b = iI (a % b) := by
  rw [iI_div ha hb, iI_mul, iI_sub, Int.emod_def, Int.mul_comm b]
theorem lI_div {a b : Int} (ha : 0 ≤ a ∧ a < 9223372036854775808) (hb : 0 < b ∧ b < 9223372036854775808) : lI a / lI b = lI (a / b) := by
  rw [lI_nat' ha.1, lI_nat' (Int.le_of_lt hb.1), pk_lDiv (by omega) (by omega) (by omega)]
  rw [← lI_nat, Int.natCast_ediv, Int.toNat_of_nonneg ha.1, Int.toNat_of_nonneg (Int.le_of_lt hb.1)]
theorem iI_l {z : Int} (h : -2147483648 ≤ z ∧ z < 2147483648) : (iI z).toInt64 = lI z := by
  rw [← Int64.toInt_inj, Int32.toInt_toInt64, iI_toInt h, lI_toInt (by omega)]
theorem lI_i (z : Int) : (lI z).toInt32 = iI z := Int64.toInt32_ofInt
theorem iI_ne0 {b : Int} (hb : 0 < b ∧ b < 2147483648) : ¬ iI b = 0 := by
  intro h
  rw [show (0 : Int32) = iI 0 from rfl, iI_eq (by omega) (by omega)] at h
  omega
theorem lI_ne0 {b : Int} (hb : 0 < b ∧ b < 9223372036854775808) : ¬ lI b = 0 := by
  intro h
  rw [show (0 : Int64) = lI 0 from rfl, lI_eq (by omega) (by omega)] at h
  omega

/-- the array classes that the worlds use, by their places -/
abbrev tys (κ : Nat → ClassId) : List (ClassId × FieldType) := [(κ 0, .int), (κ 1, .boolean), (κ 2, .object "Canticle$Tally"), (κ 3, .array .int)]
/-- POWERS -/
def pw (j : Nat) : Int := [1, 14, 196, 2744, 38416].getD j 0
/-- what the tables say beside the words -/
def Wn (U : State) : Prop :=
  va_Nw (.fieldLinkNest "Canticle$Reckoner" 48 "Canticle" "POWERS" "[I" "Canticle") U ∧ va_Nw (.fieldLinkNest "Canticle$Ledger" 48 "Canticle" "POWERS" "[I" "Canticle") U ∧ va_Nw (.fieldLinkNest "Canticle$Search" 67 "Canticle" "POWERS" "[I" "Canticle") U ∧
  va_Nw (.methodLinkNest RX5 36 yX2_init "Canticle") U ∧ va_Nw (.methodLinkNest RX0 27 yX4_init "Canticle") U ∧ va_Nw (.methodLinkNest RX3 81 yX5_cost "Canticle") U ∧ va_AO "Canticle$Tally" U ∧ va_AOA .int U
theorem Wn.warm {s U : State} (hW : s.WarmedH U.vm) (h : Wn s) : Wn U := by
  obtain ⟨h1, h2, h3, h4, h5, h6, h7, h8⟩ := h
  exact ⟨h1.warmF hW, h2.warmF hW, h3.warmF hW, h4.warmM hW, h5.warmM hW, h6.warmM hW, va_AO.moved hW.alike h7, va_AOA.moved hW.alike h8⟩
/-- what a start holds beside its world: outside A -/
def Ev (ε : Nat) (A : Nat → Prop) (U : State) (H : Heap) : Prop :=
  va_Z "Canticle" "POWERS" "[I" (.ref ε) A U H ∧ va_T .int ε 5 (fun j => .int (iI (pw j))) A U H ∧ Wn U
theorem Ev.warm {ε : Nat} {A : Nat → Prop} {s U : State} {H : Heap} (hW : s.WarmedH U.vm) (h : Ev ε A s H) : Ev ε A U H := ⟨va_Z.moved hW.alike h.1, va_T.moved hW.alike h.2.1, h.2.2.warm hW⟩
theorem Ev.kept {ε : Nat} {A : Nat → Prop} {U : State} {H H1 : Heap} (h : Ev ε A U H) (hq : ∀ a : Nat, a < H.size → ¬ A a → H1[a]? = H[a]?) : Ev ε A U H1 := ⟨va_Z.kept h.1 hq, va_T.kept h.2.1 hq, h.2.2⟩
theorem Ev.narrow {ε : Nat} {A B : Nat → Prop} {U : State} {H : Heap} (h : Ev ε A U H) (hAB : ∀ q, B q → A q) : Ev ε B U H := ⟨va_Z.narrow h.1 hAB, va_T.narrow h.2.1 hAB, h.2.2⟩
/-- a method's start -/
def PreW (D : va_G) (κ : Nat → Nat) (ε : Nat) (ws : va_W) (sz : Nat) (U : State) : Prop :=
  U.heap.size = sz ∧ va_P D vwCl ws U.heap ∧ va_K D vwCl (tys κ) U ∧ va_D (fun _ => True) ws ∧ Ev ε (va_A ws sz) U U.heap
theorem preW_blind {D : va_G} {κ : Nat → Nat} {ε : Nat} {ws : va_W} {sz : Nat} {av : List Value} : FrameBlind (va_Pc av (PreW D κ ε ws sz)) := fun a U g mk q => by
  obtain ⟨q0, q1, qP, qK, qD, qE⟩ := q
  exact ⟨q0, q1, qP, va_K.moved (u := U) (U := U.calling g mk a) (Vm.Alike.refl U.vm) qK, qD, Ev.warm (s := U) (U := U.calling g mk a) (State.WarmedH.refl U) qE⟩
/-- a method's end: its world -/
def BW (D : va_G) (κ : Nat → Nat) (A : Nat → Prop) (ws : va_W) (t : State) : Prop := va_P D vwCl ws t.heap ∧ va_K D vwCl (tys κ) t ∧ va_D A ws
def QW {S : Type} (Wx : S → va_W × Nat × Nat) (D : va_G) (κ : Nat → Nat) (A : Nat → Prop) (post : Option Value → S → Prop) : Array Value → State → Outcome → State → Prop := fun _ st oc t => (∃ (v : Option Value) (u : S), oc = .returned v ∧ post v u ∧ BW D κ A (Wx u).1 t) ∧ va_F A st t
/-- A CONTRACT: y, called with av over the world of u, returns v over the world of u' with 'post v u'' -/
def Ct {S : Type} (Wx : S → va_W × Nat × Nat) (l : Launch) (D : va_G) (κ : Nat → Nat) (ε : Nat) (y : MethodName) (cc : ByteArray) (mL : Nat) (ret : Option FieldType) (fr lo mc ms : Nat) (u : S) (av : List Value) (post : Option Value → S → Prop) : Prop :=
  ∀ sz : Nat, Met l y (Cond.code y cc mL ret :: Wall) { frames := fr, cells := mc, slots := ms, locals := lo } (va_Pc av (PreW D κ ε (Wx u).1 sz)) (QW Wx D κ (va_A (Wx u).1 sz) post) mc ms (va_A (Wx u).1 sz)
/-- the walk, all of the machine hidden -/
def Gm {S : Type} (Wx : S → va_W × Nat × Nat) (p : Program) (l : Launch) (e : Env) (R : Room) (s : State) (m : MethodId) (args : Array Value) (below : List Frame) (meth : Method) (c : Code) (D : va_G) (A : Nat → Prop) (Q : State → Prop) : S → Nat → Array Slot → List Value → Prop :=
  fun u pc ls st => ∀ (H : Heap) (locs : List Loc), va_P D vwCl (Wx u).1 H → va_D A (Wx u).1 → va_S A s.heap H locs → W p l e R s m args below meth c H locs (Wx u).2.1 (Wx u).2.2 Q (F0 m pc ls st)
def retOk (cc : ByteArray) (pc : Nat) (ret : Option FieldType) (v : Option Value) : Prop :=
  (v = none ∧ ret = none ∧ decode cc pc = .ok (.return_, 1)) ∨ (∃ (x : Int32) (ty : FieldType), v = some (.int x) ∧ ret = some ty ∧ narrow ty (.int x) = .int x ∧ decode cc pc = .ok (.ireturn, 1)) ∨
  (∃ x : Int64, v = some (.long x) ∧ ret = some .long ∧ decode cc pc = .ok (.lreturn, 1)) ∨ (∃ x : UInt64, v = some (.double x) ∧ ret = some .double ∧ decode cc pc = .ok (.dreturn, 1)) ∨
  (∃ (x : Nat) (rt : FieldType), v = some (.ref x) ∧ ret = some rt ∧ ((∃ n, rt = .object n) ∨ ∃ t, rt = .array t) ∧ decode cc pc = .ok (.areturn, 1))
def Cx {S : Type} (Wx : S → va_W × Nat × Nat) (l : Launch) (D : va_G) (κ : Nat → Nat) (ε : Nat) (own : String) (cc : ByteArray) (mL : Nat) (ret : Option FieldType) (R : Room) (post : Option Value → S → Prop) (Γ : S → Nat → Array Slot → List Value → Prop) : Prop :=
  ∃ (p : Program) (e : Jvm.Env) (s : State) (m : MethodId) (args : Array Value) (below : List Frame) (meth : Method) (c : Code) (A : Nat → Prop) (Q : State → Prop),
    Γ = Gm Wx p l e R s m args below meth c D A Q ∧ p.tables.exec = Jvm.exec ∧ c.code = cc ∧ c.maxLocals = mL ∧ s.vm.findClass own = some m.cls ∧ (∀ w ∈ Wall, w.before args s = true) ∧ va_K D vwCl (tys κ) s ∧ Ev ε A s s.heap ∧ (∀ q, s.heap.size ≤ q → A q) ∧
    (∀ (u : S) (pc : Nat) (ls : Array Slot) (v : Option Value) (H : Heap) (locs : List Loc), retOk cc pc ret v → post v u → (Wx u).2.1 ≤ R.cells → (Wx u).2.2 ≤ R.slots → va_P D vwCl (Wx u).1 H → va_D A (Wx u).1 → va_S A s.heap H locs → W p l e R s m args below meth c H locs (Wx u).2.1 (Wx u).2.2 Q (F0 m pc ls v.toList))
/-- THE JUDGEMENT: over u, at pc, with the locals L and the stack st, the walk comes to its end -/
def WW {S : Type} (Γ : S → Nat → Array Slot → List Value → Prop) (mL : Nat) (u : S) (pc : Nat) (L : List (Nat × Value)) (st : List Value) : Prop := ∀ ls : Array Slot, lv_has ls mL L → Γ u pc ls st
theorem lv_look {ls : Array Slot} {nL : Nat} {L : List (Nat × Value)} {i : Nat} {v : Value} (h : lv_has ls nL L) (hv : L.lookup i = some v) : ls[i]? = some (.val v) := by
  refine h.2.2 (i, v) ?_
  clear h
  induction L with
  | nil => cases hv
  | cons q L ih =>
    obtain ⟨j, w⟩ := q
    rw [List.lookup_cons] at hv
    by_cases e : i = j
    · subst e
      simp at hv
      subst hv
      exact List.mem_cons_self
    · rw [beq_false_of_ne e] at hv
      exact List.mem_cons_of_mem _ (ih hv)
/-- a store of one slot, of two -/
def ls1 (L : List (Nat × Value)) (i : Nat) (v : Value) : List (Nat × Value) := (i, v) :: L.filter (fun q => !(q.1 == i) && !(q.1 + 1 == i && q.2.category == 2))
def ls2 (L : List (Nat × Value)) (i : Nat) (v : Value) : List (Nat × Value) := (i, v) :: L.filter (fun q => !(q.1 == i) && (!(q.1 == i + 1) && !(q.1 + 1 == i && q.2.category == 2)))
section ROWS
variable {S : Type} {Wx : S → va_W × Nat × Nat} {l : Launch} {D : va_G} {κ : Nat → Nat} {ε : Nat} {own : String} {cc : ByteArray} {mL : Nat} {ret : Option FieldType} {R : Room} {post : Option Value → S → Prop} {Γ : S → Nat → Array Slot → List Value → Prop} {u : S} {pc : Nat} {L : List (Nat × Value)} {st : List Value}
theorem WW.sub {L' : List (Nat × Value)} (hL : L'.map (fun q => L.lookup q.1) = L'.map (fun q => some q.2)) (k : WW Γ mL u pc L' st) : WW Γ mL u pc L st := by
  intro ls hl
  refine k ls ⟨hl.1, hl.2.1, fun q hq => ?_⟩
  refine lv_look hl ?_
  obtain ⟨j, hj⟩ := List.getElem?_of_mem hq
  have h1 : (L'.map (fun q => L.lookup q.1))[j]? = (L'.map (fun q => some q.2))[j]? := by rw [hL]
  rw [List.getElem?_map, List.getElem?_map, hj] at h1
  exact Option.some.inj h1
theorem WW.eqs {st' : List Value} (h : st = st') (k : WW Γ mL u pc L st') : WW Γ mL u pc L st := h ▸ k
theorem WW.equ {u' : S} (h : u = u') (k : WW Γ mL u' pc L st) : WW Γ mL u pc L st := h ▸ k

theorem w_iconst (h : Cx Wx l D κ ε own cc mL ret R post Γ) {n : Int} (d : decode cc pc = .ok (.iconst n, 1))  (k : WW Γ mL u (pc + 1) L (.int (iI n) :: st)) : WW Γ mL u pc L (st) := by
  obtain ⟨p, e, s, m, args, below, meth, c, A, Q, rfl, hx, hb, hml, hown, hts, hK, hE, hA, hfin⟩ := h
  intro ls hl H locs hP hD hS
  exact lv_iconst hx hb d rfl (k ls hl H locs hP hD hS)

theorem w_bipush (h : Cx Wx l D κ ε own cc mL ret R post Γ) {n : Int} (d : decode cc pc = .ok (.bipush n, 2)) (hn : (Int8.ofInt n).toInt32 = iI n) (k : WW Γ mL u (pc + 2) L (.int (iI n) :: st)) : WW Γ mL u pc L (st) := by
  obtain ⟨p, e, s, m, args, below, meth, c, A, Q, rfl, hx, hb, hml, hown, hts, hK, hE, hA, hfin⟩ := h
  intro ls hl H locs hP hD hS
  exact lv_bipush hx hb d hn (k ls hl H locs hP hD hS)

theorem w_sipush (h : Cx Wx l D κ ε own cc mL ret R post Γ) {n : Int} (d : decode cc pc = .ok (.sipush n, 3)) (hn : (Int16.ofInt n).toInt32 = iI n) (k : WW Γ mL u (pc + 3) L (.int (iI n) :: st)) : WW Γ mL u pc L (st) := by
  obtain ⟨p, e, s, m, args, below, meth, c, A, Q, rfl, hx, hb, hml, hown, hts, hK, hE, hA, hfin⟩ := h
  intro ls hl H locs hP hD hS
  exact lv_sipush hx hb d hn (k ls hl H locs hP hD hS)

theorem w_ldc (h : Cx Wx l D κ ε own cc mL ret R post Γ) {ix : Nat} {v : Int32} {z : Int} (d : decode cc pc = .ok (.ldc ix, 2)) (hw : Cond.constant own ix v ∈ Wall) (hz : v = iI z) (k : WW Γ mL u (pc + 2) L (.int (iI z) :: st)) : WW Γ mL u pc L (st) := by
  obtain ⟨p, e, s, m, args, below, meth, c, A, Q, rfl, hx, hb, hml, hown, hts, hK, hE, hA, hfin⟩ := h
  intro ls hl H locs hP hD hS
  subst hz
  exact lv_ldc hx hb hown (hts _ hw) d (k ls hl H locs hP hD hS)

theorem w_ldcw (h : Cx Wx l D κ ε own cc mL ret R post Γ) {ix : Nat} {v : Int32} {z : Int} (d : decode cc pc = .ok (.ldc_w ix, 3)) (hw : Cond.constant own ix v ∈ Wall) (hz : v = iI z) (k : WW Γ mL u (pc + 3) L (.int (iI z) :: st)) : WW Γ mL u pc L (st) := by
  obtain ⟨p, e, s, m, args, below, meth, c, A, Q, rfl, hx, hb, hml, hown, hts, hK, hE, hA, hfin⟩ := h
  intro ls hl H locs hP hD hS
  subst hz
  exact lv_ldcw hx hb hown (hts _ hw) d (k ls hl H locs hP hD hS)

theorem w_ldc2 (h : Cx Wx l D κ ε own cc mL ret R post Γ) {ix : Nat} {v : Int64} {z : Int} (d : decode cc pc = .ok (.ldc2_w ix, 3)) (hw : Cond.constantLong own ix v ∈ Wall) (hz : v = lI z) (k : WW Γ mL u (pc + 3) L (.long (lI z) :: st)) : WW Γ mL u pc L (st) := by
  obtain ⟨p, e, s, m, args, below, meth, c, A, Q, rfl, hx, hb, hml, hown, hts, hK, hE, hA, hfin⟩ := h
  intro ls hl H locs hP hD hS
  subst hz
  exact lv_ldc2 hx hb hown (hts _ hw) d (k ls hl H locs hP hD hS)

theorem w_lconst (h : Cx Wx l D κ ε own cc mL ret R post Γ) {n : Fin 2} {z : Int} (d : decode cc pc = .ok (.lconst n, 1)) (hz : Int64.ofNat (n : Nat) = lI z) (k : WW Γ mL u (pc + 1) L (.long (lI z) :: st)) : WW Γ mL u pc L (st) := by
  obtain ⟨p, e, s, m, args, below, meth, c, A, Q, rfl, hx, hb, hml, hown, hts, hK, hE, hA, hfin⟩ := h
  intro ls hl H locs hP hD hS
  exact lv_lconst hx hb d hz (k ls hl H locs hP hD hS)

theorem w_iload_n (h : Cx Wx l D κ ε own cc mL ret R post Γ) {j : Fin 4} {x : Int32} (d : decode cc pc = .ok (.iload_n j, 1)) (hv : L.lookup (j : Nat) = some (.int x)) (k : WW Γ mL u (pc + 1) L (.int x :: st)) : WW Γ mL u pc L (st) := by
  obtain ⟨p, e, s, m, args, below, meth, c, A, Q, rfl, hx, hb, hml, hown, hts, hK, hE, hA, hfin⟩ := h
  intro ls hl H locs hP hD hS
  exact lv_iload_n hx hb d rfl (lv_look hl hv) (k ls hl H locs hP hD hS)

theorem w_iload (h : Cx Wx l D κ ε own cc mL ret R post Γ) {j : Nat} {x : Int32} (d : decode cc pc = .ok (.iload j, 2)) (hv : L.lookup j = some (.int x)) (k : WW Γ mL u (pc + 2) L (.int x :: st)) : WW Γ mL u pc L (st) := by
  obtain ⟨p, e, s, m, args, below, meth, c, A, Q, rfl, hx, hb, hml, hown, hts, hK, hE, hA, hfin⟩ := h
  intro ls hl H locs hP hD hS
  exact lv_iload hx hb d (lv_look hl hv) (k ls hl H locs hP hD hS)

theorem w_istore_n (h : Cx Wx l D κ ε own cc mL ret R post Γ) {j : Fin 4} {x : Int32} (d : decode cc pc = .ok (.istore_n j, 1)) (hj : (j : Nat) < mL) (k : WW Γ mL u (pc + 1) (ls1 L (j : Nat) (.int x)) (st)) : WW Γ mL u pc L (.int x :: st) := by
  obtain ⟨p, e, s, m, args, below, meth, c, A, Q, rfl, hx, hb, hml, hown, hts, hK, hE, hA, hfin⟩ := h
  intro ls hl H locs hP hD hS
  exact lv_istore_n hx hb d rfl hl hj rfl (fun ls hl => k ls hl H locs hP hD hS)

theorem w_istore (h : Cx Wx l D κ ε own cc mL ret R post Γ) {j : Nat} {x : Int32} (d : decode cc pc = .ok (.istore j, 2)) (hj : j < mL) (k : WW Γ mL u (pc + 2) (ls1 L j (.int x)) (st)) : WW Γ mL u pc L (.int x :: st) := by
  obtain ⟨p, e, s, m, args, below, meth, c, A, Q, rfl, hx, hb, hml, hown, hts, hK, hE, hA, hfin⟩ := h
  intro ls hl H locs hP hD hS
  exact lv_istore hx hb d hl hj rfl (fun ls hl => k ls hl H locs hP hD hS)

theorem w_lload_n (h : Cx Wx l D κ ε own cc mL ret R post Γ) {j : Fin 4} {x : Int64} (d : decode cc pc = .ok (.lload_n j, 1)) (hv : L.lookup (j : Nat) = some (.long x)) (k : WW Γ mL u (pc + 1) L (.long x :: st)) : WW Γ mL u pc L (st) := by
  obtain ⟨p, e, s, m, args, below, meth, c, A, Q, rfl, hx, hb, hml, hown, hts, hK, hE, hA, hfin⟩ := h
  intro ls hl H locs hP hD hS
  exact lv_lload_n hx hb d rfl (lv_look hl hv) (k ls hl H locs hP hD hS)

theorem w_lload (h : Cx Wx l D κ ε own cc mL ret R post Γ) {j : Nat} {x : Int64} (d : decode cc pc = .ok (.lload j, 2)) (hv : L.lookup j = some (.long x)) (k : WW Γ mL u (pc + 2) L (.long x :: st)) : WW Γ mL u pc L (st) := by
  obtain ⟨p, e, s, m, args, below, meth, c, A, Q, rfl, hx, hb, hml, hown, hts, hK, hE, hA, hfin⟩ := h
  intro ls hl H locs hP hD hS
  exact lv_lload hx hb d (lv_look hl hv) (k ls hl H locs hP hD hS)

theorem w_lstore_n (h : Cx Wx l D κ ε own cc mL ret R post Γ) {j : Fin 4} {x : Int64} (d : decode cc pc = .ok (.lstore_n j, 1)) (hj : (j : Nat) + 1 < mL) (k : WW Γ mL u (pc + 1) (ls2 L (j : Nat) (.long x)) (st)) : WW Γ mL u pc L (.long x :: st) := by
  obtain ⟨p, e, s, m, args, below, meth, c, A, Q, rfl, hx, hb, hml, hown, hts, hK, hE, hA, hfin⟩ := h
  intro ls hl H locs hP hD hS
  exact lv_lstore_n hx hb d rfl hl hj rfl (fun ls hl => k ls hl H locs hP hD hS)

theorem w_lstore (h : Cx Wx l D κ ε own cc mL ret R post Γ) {j : Nat} {x : Int64} (d : decode cc pc = .ok (.lstore j, 2)) (hj : j + 1 < mL) (k : WW Γ mL u (pc + 2) (ls2 L j (.long x)) (st)) : WW Γ mL u pc L (.long x :: st) := by
  obtain ⟨p, e, s, m, args, below, meth, c, A, Q, rfl, hx, hb, hml, hown, hts, hK, hE, hA, hfin⟩ := h
  intro ls hl H locs hP hD hS
  exact lv_lstore hx hb d hl hj rfl (fun ls hl => k ls hl H locs hP hD hS)

theorem w_aload_n (h : Cx Wx l D κ ε own cc mL ret R post Γ) {j : Fin 4} {x : Nat} (d : decode cc pc = .ok (.aload_n j, 1)) (hv : L.lookup (j : Nat) = some (.ref x)) (k : WW Γ mL u (pc + 1) L (.ref x :: st)) : WW Γ mL u pc L (st) := by
  obtain ⟨p, e, s, m, args, below, meth, c, A, Q, rfl, hx, hb, hml, hown, hts, hK, hE, hA, hfin⟩ := h
  intro ls hl H locs hP hD hS
  exact lv_aload_n hx hb d rfl (lv_look hl hv) (k ls hl H locs hP hD hS)

theorem w_aload (h : Cx Wx l D κ ε own cc mL ret R post Γ) {j : Nat} {x : Nat} (d : decode cc pc = .ok (.aload j, 2)) (hv : L.lookup j = some (.ref x)) (k : WW Γ mL u (pc + 2) L (.ref x :: st)) : WW Γ mL u pc L (st) := by
  obtain ⟨p, e, s, m, args, below, meth, c, A, Q, rfl, hx, hb, hml, hown, hts, hK, hE, hA, hfin⟩ := h
  intro ls hl H locs hP hD hS
  exact lv_aload hx hb d (lv_look hl hv) (k ls hl H locs hP hD hS)

theorem w_astore_n (h : Cx Wx l D κ ε own cc mL ret R post Γ) {j : Fin 4} {x : Nat} (d : decode cc pc = .ok (.astore_n j, 1)) (hj : (j : Nat) < mL) (k : WW Γ mL u (pc + 1) (ls1 L (j : Nat) (.ref x)) (st)) : WW Γ mL u pc L (.ref x :: st) := by
  obtain ⟨p, e, s, m, args, below, meth, c, A, Q, rfl, hx, hb, hml, hown, hts, hK, hE, hA, hfin⟩ := h
  intro ls hl H locs hP hD hS
  exact lv_astore_n hx hb d rfl hl hj rfl (fun ls hl => k ls hl H locs hP hD hS)

theorem w_astore (h : Cx Wx l D κ ε own cc mL ret R post Γ) {j : Nat} {x : Nat} (d : decode cc pc = .ok (.astore j, 2)) (hj : j < mL) (k : WW Γ mL u (pc + 2) (ls1 L j (.ref x)) (st)) : WW Γ mL u pc L (.ref x :: st) := by
  obtain ⟨p, e, s, m, args, below, meth, c, A, Q, rfl, hx, hb, hml, hown, hts, hK, hE, hA, hfin⟩ := h
  intro ls hl H locs hP hD hS
  exact lv_astore hx hb d hl hj rfl (fun ls hl => k ls hl H locs hP hD hS)

theorem w_dload_n (h : Cx Wx l D κ ε own cc mL ret R post Γ) {j : Fin 4} {x : UInt64} (d : decode cc pc = .ok (.dload_n j, 1)) (hv : L.lookup (j : Nat) = some (.double x)) (k : WW Γ mL u (pc + 1) L (.double x :: st)) : WW Γ mL u pc L (st) := by
  obtain ⟨p, e, s, m, args, below, meth, c, A, Q, rfl, hx, hb, hml, hown, hts, hK, hE, hA, hfin⟩ := h
  intro ls hl H locs hP hD hS
  exact lv_dload_n hx hb d rfl (lv_look hl hv) (k ls hl H locs hP hD hS)

theorem w_dload (h : Cx Wx l D κ ε own cc mL ret R post Γ) {j : Nat} {x : UInt64} (d : decode cc pc = .ok (.dload j, 2)) (hv : L.lookup j = some (.double x)) (k : WW Γ mL u (pc + 2) L (.double x :: st)) : WW Γ mL u pc L (st) := by
  obtain ⟨p, e, s, m, args, below, meth, c, A, Q, rfl, hx, hb, hml, hown, hts, hK, hE, hA, hfin⟩ := h
  intro ls hl H locs hP hD hS
  exact lv_dload hx hb d (lv_look hl hv) (k ls hl H locs hP hD hS)

theorem w_dstore_n (h : Cx Wx l D κ ε own cc mL ret R post Γ) {j : Fin 4} {x : UInt64} (d : decode cc pc = .ok (.dstore_n j, 1)) (hj : (j : Nat) + 1 < mL) (k : WW Γ mL u (pc + 1) (ls2 L (j : Nat) (.double x)) (st)) : WW Γ mL u pc L (.double x :: st) := by
  obtain ⟨p, e, s, m, args, below, meth, c, A, Q, rfl, hx, hb, hml, hown, hts, hK, hE, hA, hfin⟩ := h
  intro ls hl H locs hP hD hS
  exact lv_dstore_n hx hb d rfl hl hj rfl (fun ls hl => k ls hl H locs hP hD hS)

theorem w_dstore (h : Cx Wx l D κ ε own cc mL ret R post Γ) {j : Nat} {x : UInt64} (d : decode cc pc = .ok (.dstore j, 2)) (hj : j + 1 < mL) (k : WW Γ mL u (pc + 2) (ls2 L j (.double x)) (st)) : WW Γ mL u pc L (.double x :: st) := by
  obtain ⟨p, e, s, m, args, below, meth, c, A, Q, rfl, hx, hb, hml, hown, hts, hK, hE, hA, hfin⟩ := h
  intro ls hl H locs hP hD hS
  exact lv_dstore hx hb d hl hj rfl (fun ls hl => k ls hl H locs hP hD hS)

theorem w_iinc (h : Cx Wx l D κ ε own cc mL ret R post Γ) {j : Nat} {n x : Int} (d : decode cc pc = .ok (.iinc j n, 3)) (hv : L.lookup j = some (.int (iI x))) (hj : j < mL) (k : WW Γ mL u (pc + 3) (ls1 L j (.int (iI (x + n)))) st) : WW Γ mL u pc L st := by
  obtain ⟨p, e, s, m, args, below, meth, c, A, Q, rfl, hx, hb, hml, hown, hts, hK, hE, hA, hfin⟩ := h
  intro ls hl H locs hP hD hS
  have hm : (j, Value.int (iI x)) ∈ L := by
    clear k hl hj d
    induction L with
    | nil => cases hv
    | cons q L ih =>
      obtain ⟨i, w⟩ := q
      rw [List.lookup_cons] at hv
      by_cases e : j = i
      · subst e
        simp at hv
        subst hv
        exact List.mem_cons_self
      · rw [beq_false_of_ne e] at hv
        exact List.mem_cons_of_mem _ (ih hv)
  obtain ⟨q, hq⟩ := List.getElem?_of_mem hm
  exact lv_iinc (k := q) hx hb d hl hq (iI_add x n) hj rfl (fun ls hl => k ls hl H locs hP hD hS)

theorem w_iadd (h : Cx Wx l D κ ε own cc mL ret R post Γ) {x y : Int} (d : decode cc pc = .ok (.iadd, 1))  (k : WW Γ mL u (pc + 1) L (.int (iI (x + y)) :: st)) : WW Γ mL u pc L (.int (iI y) :: .int (iI x) :: st) := by
  obtain ⟨p, e, s, m, args, below, meth, c, A, Q, rfl, hx, hb, hml, hown, hts, hK, hE, hA, hfin⟩ := h
  intro ls hl H locs hP hD hS
  refine lv_iadd hx hb d ?_
  rw [iI_add]
  exact k ls hl H locs hP hD hS

theorem w_isub (h : Cx Wx l D κ ε own cc mL ret R post Γ) {x y : Int} (d : decode cc pc = .ok (.isub, 1))  (k : WW Γ mL u (pc + 1) L (.int (iI (x - y)) :: st)) : WW Γ mL u pc L (.int (iI y) :: .int (iI x) :: st) := by
  obtain ⟨p, e, s, m, args, below, meth, c, A, Q, rfl, hx, hb, hml, hown, hts, hK, hE, hA, hfin⟩ := h
  intro ls hl H locs hP hD hS
  refine lv_isub hx hb d ?_
  rw [iI_sub]
  exact k ls hl H locs hP hD hS

theorem w_imul (h : Cx Wx l D κ ε own cc mL ret R post Γ) {x y : Int} (d : decode cc pc = .ok (.imul, 1))  (k : WW Γ mL u (pc + 1) L (.int (iI (x * y)) :: st)) : WW Γ mL u pc L (.int (iI y) :: .int (iI x) :: st) := by
  obtain ⟨p, e, s, m, args, below, meth, c, A, Q, rfl, hx, hb, hml, hown, hts, hK, hE, hA, hfin⟩ := h
  intro ls hl H locs hP hD hS
  refine lv_imul hx hb d ?_
  rw [iI_mul]
  exact k ls hl H locs hP hD hS

theorem w_ladd (h : Cx Wx l D κ ε own cc mL ret R post Γ) {x y : Int} (d : decode cc pc = .ok (.ladd, 1))  (k : WW Γ mL u (pc + 1) L (.long (lI (x + y)) :: st)) : WW Γ mL u pc L (.long (lI y) :: .long (lI x) :: st) := by
  obtain ⟨p, e, s, m, args, below, meth, c, A, Q, rfl, hx, hb, hml, hown, hts, hK, hE, hA, hfin⟩ := h
  intro ls hl H locs hP hD hS
  refine lv_ladd hx hb d ?_
  rw [lI_add]
  exact k ls hl H locs hP hD hS

theorem w_lsub (h : Cx Wx l D κ ε own cc mL ret R post Γ) {x y : Int} (d : decode cc pc = .ok (.lsub, 1))  (k : WW Γ mL u (pc + 1) L (.long (lI (x - y)) :: st)) : WW Γ mL u pc L (.long (lI y) :: .long (lI x) :: st) := by
  obtain ⟨p, e, s, m, args, below, meth, c, A, Q, rfl, hx, hb, hml, hown, hts, hK, hE, hA, hfin⟩ := h
  intro ls hl H locs hP hD hS
  refine lv_lsub hx hb d ?_
  rw [lI_sub]
  exact k ls hl H locs hP hD hS

theorem w_lmul (h : Cx Wx l D κ ε own cc mL ret R post Γ) {x y : Int} (d : decode cc pc = .ok (.lmul, 1))  (k : WW Γ mL u (pc + 1) L (.long (lI (x * y)) :: st)) : WW Γ mL u pc L (.long (lI y) :: .long (lI x) :: st) := by
  obtain ⟨p, e, s, m, args, below, meth, c, A, Q, rfl, hx, hb, hml, hown, hts, hK, hE, hA, hfin⟩ := h
  intro ls hl H locs hP hD hS
  refine lv_lmul hx hb d ?_
  rw [lI_mul]
  exact k ls hl H locs hP hD hS

theorem w_idiv (h : Cx Wx l D κ ε own cc mL ret R post Γ) {x y : Int} (d : decode cc pc = .ok (.idiv, 1)) (hx0 : 0 ≤ x ∧ x < 2147483648) (hy : 0 < y ∧ y < 2147483648) (k : WW Γ mL u (pc + 1) L (.int (iI (x / y)) :: st)) : WW Γ mL u pc L (.int (iI y) :: .int (iI x) :: st) := by
  obtain ⟨p, e, s, m, args, below, meth, c, A, Q, rfl, hx, hb, hml, hown, hts, hK, hE, hA, hfin⟩ := h
  intro ls hl H locs hP hD hS
  refine lv_idiv hx hb d (iI_ne0 hy) ?_
  rw [iI_div hx0 hy]
  exact k ls hl H locs hP hD hS

theorem w_irem (h : Cx Wx l D κ ε own cc mL ret R post Γ) {x y : Int} (d : decode cc pc = .ok (.irem, 1)) (hx0 : 0 ≤ x ∧ x < 2147483648) (hy : 0 < y ∧ y < 2147483648) (k : WW Γ mL u (pc + 1) L (.int (iI (x % y)) :: st)) : WW Γ mL u pc L (.int (iI y) :: .int (iI x) :: st) := by
  obtain ⟨p, e, s, m, args, below, meth, c, A, Q, rfl, hx, hb, hml, hown, hts, hK, hE, hA, hfin⟩ := h
  intro ls hl H locs hP hD hS
  refine lv_irem hx hb d (iI_ne0 hy) ?_
  rw [iI_rem hx0 hy]
  exact k ls hl H locs hP hD hS

theorem w_ldiv (h : Cx Wx l D κ ε own cc mL ret R post Γ) {x y : Int} (d : decode cc pc = .ok (.ldiv, 1)) (hx0 : 0 ≤ x ∧ x < 9223372036854775808) (hy : 0 < y ∧ y < 9223372036854775808) (k : WW Γ mL u (pc + 1) L (.long (lI (x / y)) :: st)) : WW Γ mL u pc L (.long (lI y) :: .long (lI x) :: st) := by
  obtain ⟨p, e, s, m, args, below, meth, c, A, Q, rfl, hx, hb, hml, hown, hts, hK, hE, hA, hfin⟩ := h
  intro ls hl H locs hP hD hS
  refine lv_ldiv hx hb d (lI_ne0 hy) ?_
  rw [lI_div hx0 hy]
  exact k ls hl H locs hP hD hS

theorem w_i2l (h : Cx Wx l D κ ε own cc mL ret R post Γ) {x : Int} (d : decode cc pc = .ok (.i2l, 1)) (hx0 : -2147483648 ≤ x ∧ x < 2147483648) (k : WW Γ mL u (pc + 1) L (.long (lI x) :: st)) : WW Γ mL u pc L (.int (iI x) :: st) := by
  obtain ⟨p, e, s, m, args, below, meth, c, A, Q, rfl, hx, hb, hml, hown, hts, hK, hE, hA, hfin⟩ := h
  intro ls hl H locs hP hD hS
  exact lv_i2l hx hb d (iI_l hx0) (k ls hl H locs hP hD hS)

theorem w_l2i (h : Cx Wx l D κ ε own cc mL ret R post Γ) {x : Int} (d : decode cc pc = .ok (.l2i, 1))  (k : WW Γ mL u (pc + 1) L (.int (iI x) :: st)) : WW Γ mL u pc L (.long (lI x) :: st) := by
  obtain ⟨p, e, s, m, args, below, meth, c, A, Q, rfl, hx, hb, hml, hown, hts, hK, hE, hA, hfin⟩ := h
  intro ls hl H locs hP hD hS
  exact lv_l2i hx hb d (lI_i x) (k ls hl H locs hP hD hS)

theorem w_i2d (h : Cx Wx l D κ ε own cc mL ret R post Γ) {x : Int32} (d : decode cc pc = .ok (.i2d, 1))  (k : WW Γ mL u (pc + 1) L (.double (FP.i2d x) :: st)) : WW Γ mL u pc L (.int x :: st) := by
  obtain ⟨p, e, s, m, args, below, meth, c, A, Q, rfl, hx, hb, hml, hown, hts, hK, hE, hA, hfin⟩ := h
  intro ls hl H locs hP hD hS
  exact lv_i2d hx hb d (k ls hl H locs hP hD hS)

theorem w_ddiv (h : Cx Wx l D κ ε own cc mL ret R post Γ) {x y : UInt64} (d : decode cc pc = .ok (.ddiv, 1)) (hn : vf_n64 (FP.ddiv x y)) (k : WW Γ mL u (pc + 1) L (.double (FP.ddiv x y) :: st)) : WW Γ mL u pc L (.double y :: .double x :: st) := by
  obtain ⟨p, e, s, m, args, below, meth, c, A, Q, rfl, hx, hb, hml, hown, hts, hK, hE, hA, hfin⟩ := h
  intro ls hl H locs hP hD hS
  exact lv_ddiv hx hb d hn (k ls hl H locs hP hD hS)

theorem w_dmul (h : Cx Wx l D κ ε own cc mL ret R post Γ) {x y : UInt64} (d : decode cc pc = .ok (.dmul, 1)) (hn : vf_n64 (FP.dmul x y)) (k : WW Γ mL u (pc + 1) L (.double (FP.dmul x y) :: st)) : WW Γ mL u pc L (.double y :: .double x :: st) := by
  obtain ⟨p, e, s, m, args, below, meth, c, A, Q, rfl, hx, hb, hml, hown, hts, hK, hE, hA, hfin⟩ := h
  intro ls hl H locs hP hD hS
  exact lv_dmul hx hb d hn (k ls hl H locs hP hD hS)

theorem w_dcmp (h : Cx Wx l D κ ε own cc mL ret R post Γ) {x y : UInt64} {op : CmpOp} (d : decode cc pc = .ok (.dcmp op, 1))  (k : WW Γ mL u (pc + 1) L (.int (Op.cmpValue (FP.dcmp x y) op) :: st)) : WW Γ mL u pc L (.double y :: .double x :: st) := by
  obtain ⟨p, e, s, m, args, below, meth, c, A, Q, rfl, hx, hb, hml, hown, hts, hK, hE, hA, hfin⟩ := h
  intro ls hl H locs hP hD hS
  exact lv_dcmp hx hb d (k ls hl H locs hP hD hS)

theorem w_iand (h : Cx Wx l D κ ε own cc mL ret R post Γ) {x y : Int32} {z : Int} (d : decode cc pc = .ok (.iand, 1)) (hz : x &&& y = iI z) (k : WW Γ mL u (pc + 1) L (.int (iI z) :: st)) : WW Γ mL u pc L (.int y :: .int x :: st) := by
  obtain ⟨p, e, s, m, args, below, meth, c, A, Q, rfl, hx, hb, hml, hown, hts, hK, hE, hA, hfin⟩ := h
  intro ls hl H locs hP hD hS
  refine lv_iand hx hb d ?_
  rw [hz]
  exact k ls hl H locs hP hD hS

theorem w_ior (h : Cx Wx l D κ ε own cc mL ret R post Γ) {x y : Int32} {z : Int} (d : decode cc pc = .ok (.ior, 1)) (hz : x ||| y = iI z) (k : WW Γ mL u (pc + 1) L (.int (iI z) :: st)) : WW Γ mL u pc L (.int y :: .int x :: st) := by
  obtain ⟨p, e, s, m, args, below, meth, c, A, Q, rfl, hx, hb, hml, hown, hts, hK, hE, hA, hfin⟩ := h
  intro ls hl H locs hP hD hS
  refine lv_ior hx hb d ?_
  rw [hz]
  exact k ls hl H locs hP hD hS

theorem w_ixor (h : Cx Wx l D κ ε own cc mL ret R post Γ) {x y : Int32} {z : Int} (d : decode cc pc = .ok (.ixor, 1)) (hz : x ^^^ y = iI z) (k : WW Γ mL u (pc + 1) L (.int (iI z) :: st)) : WW Γ mL u pc L (.int y :: .int x :: st) := by
  obtain ⟨p, e, s, m, args, below, meth, c, A, Q, rfl, hx, hb, hml, hown, hts, hK, hE, hA, hfin⟩ := h
  intro ls hl H locs hP hD hS
  refine lv_ixor hx hb d ?_
  rw [hz]
  exact k ls hl H locs hP hD hS

theorem w_ishl (h : Cx Wx l D κ ε own cc mL ret R post Γ) {x y : Int32} {z : Int} (d : decode cc pc = .ok (.ishl, 1)) (hz : x <<< (y &&& 31) = iI z) (k : WW Γ mL u (pc + 1) L (.int (iI z) :: st)) : WW Γ mL u pc L (.int y :: .int x :: st) := by
  obtain ⟨p, e, s, m, args, below, meth, c, A, Q, rfl, hx, hb, hml, hown, hts, hK, hE, hA, hfin⟩ := h
  intro ls hl H locs hP hD hS
  refine lv_ishl hx hb d ?_
  rw [hz]
  exact k ls hl H locs hP hD hS

theorem w_ishr (h : Cx Wx l D κ ε own cc mL ret R post Γ) {x y : Int32} {z : Int} (d : decode cc pc = .ok (.ishr, 1)) (hz : x >>> (y &&& 31) = iI z) (k : WW Γ mL u (pc + 1) L (.int (iI z) :: st)) : WW Γ mL u pc L (.int y :: .int x :: st) := by
  obtain ⟨p, e, s, m, args, below, meth, c, A, Q, rfl, hx, hb, hml, hown, hts, hK, hE, hA, hfin⟩ := h
  intro ls hl H locs hP hD hS
  refine lv_ishr hx hb d ?_
  rw [hz]
  exact k ls hl H locs hP hD hS

theorem w_lcmp (h : Cx Wx l D κ ε own cc mL ret R post Γ) {x y : Int} (d : decode cc pc = .ok (.lcmp, 1))  (k : WW Γ mL u (pc + 1) L (.int (lg_cmp (lI x) (lI y)) :: st)) : WW Γ mL u pc L (.long (lI y) :: .long (lI x) :: st) := by
  obtain ⟨p, e, s, m, args, below, meth, c, A, Q, rfl, hx, hb, hml, hown, hts, hK, hE, hA, hfin⟩ := h
  intro ls hl H locs hP hD hS
  exact W.lcmp hx hb d (k ls hl H locs hP hD hS)

theorem w_dup (h : Cx Wx l D κ ε own cc mL ret R post Γ) {v : Value} (d : decode cc pc = .ok (.dup, 1)) (hc : v.category = 1) (k : WW Γ mL u (pc + 1) L (v :: v :: st)) : WW Γ mL u pc L (v :: st) := by
  obtain ⟨p, e, s, m, args, below, meth, c, A, Q, rfl, hx, hb, hml, hown, hts, hK, hE, hA, hfin⟩ := h
  intro ls hl H locs hP hD hS
  exact lv_dup hx hb d hc (k ls hl H locs hP hD hS)

theorem w_pop (h : Cx Wx l D κ ε own cc mL ret R post Γ) {v : Value} (d : decode cc pc = .ok (.pop, 1)) (hc : v.category = 1) (k : WW Γ mL u (pc + 1) L (st)) : WW Γ mL u pc L (v :: st) := by
  obtain ⟨p, e, s, m, args, below, meth, c, A, Q, rfl, hx, hb, hml, hown, hts, hK, hE, hA, hfin⟩ := h
  intro ls hl H locs hP hD hS
  exact lv_pop hx hb d hc (k ls hl H locs hP hD hS)

theorem w_dup2 (h : Cx Wx l D κ ε own cc mL ret R post Γ) {v w : Value} (d : decode cc pc = .ok (.dup2, 1)) (hc : v.category = 1) (hc2 : w.category = 1) (k : WW Γ mL u (pc + 1) L (v :: w :: v :: w :: st)) : WW Γ mL u pc L (v :: w :: st) := by
  obtain ⟨p, e, s, m, args, below, meth, c, A, Q, rfl, hx, hb, hml, hown, hts, hK, hE, hA, hfin⟩ := h
  intro ls hl H locs hP hD hS
  exact lv_dup2_11 hx hb d hc hc2 (k ls hl H locs hP hD hS)

theorem w_dup_x1 (h : Cx Wx l D κ ε own cc mL ret R post Γ) {v w : Value} (d : decode cc pc = .ok (.dup_x1, 1)) (hc : v.category = 1) (hc2 : w.category = 1) (k : WW Γ mL u (pc + 1) L (v :: w :: v :: st)) : WW Γ mL u pc L (v :: w :: st) := by
  obtain ⟨p, e, s, m, args, below, meth, c, A, Q, rfl, hx, hb, hml, hown, hts, hK, hE, hA, hfin⟩ := h
  intro ls hl H locs hP hD hS
  exact lv_dup_x1 hx hb d hc hc2 (k ls hl H locs hP hD hS)

theorem w_goto (h : Cx Wx l D κ ε own cc mL ret R post Γ) {off : Int} {tgt : Nat} (d : decode cc pc = .ok (.goto off, 3)) (ht : (pc : Int) + off = (tgt : Int)) (k : WW Γ mL u tgt L st) : WW Γ mL u pc L st := by
  obtain ⟨p, e, s, m, args, below, meth, c, A, Q, rfl, hx, hb, hml, hown, hts, hK, hE, hA, hfin⟩ := h
  intro ls hl H locs hP hD hS
  exact lv_goto hx hb d ht (k ls hl H locs hP hD hS)

theorem w_icmp_eq (h : Cx Wx l D κ ε own cc mL ret R post Γ) {off : Int} {tgt : Nat} {x y : Int} (d : decode cc pc = .ok (.if_icmp .eq off, 3)) (ht : (pc : Int) + off = (tgt : Int)) (hx0 : -2147483648 ≤ x ∧ x < 2147483648) (hy : -2147483648 ≤ y ∧ y < 2147483648) (kt : x = y → WW Γ mL u tgt L st) (kf : x ≠ y → WW Γ mL u (pc + 3) L st) : WW Γ mL u pc L (.int (iI y) :: .int (iI x) :: st) := by
  obtain ⟨p, e, s, m, args, below, meth, c, A, Q, rfl, hx, hb, hml, hown, hts, hK, hE, hA, hfin⟩ := h
  intro ls hl H locs hP hD hS
  exact lv_icmp_eq hx hb d ht (fun z => kt ((iI_eq hx0 hy).mp z) ls hl H locs hP hD hS) (fun z => kf (fun w => z ((iI_eq hx0 hy).mpr w)) ls hl H locs hP hD hS)

theorem w_if_eq (h : Cx Wx l D κ ε own cc mL ret R post Γ) {off : Int} {tgt : Nat} {x : Int} (d : decode cc pc = .ok (.ifCond .eq off, 3)) (ht : (pc : Int) + off = (tgt : Int)) (hx0 : -2147483648 ≤ x ∧ x < 2147483648)  (kt : x = 0 → WW Γ mL u tgt L st) (kf : x ≠ 0 → WW Γ mL u (pc + 3) L st) : WW Γ mL u pc L (.int (iI x) :: st) := by
  obtain ⟨p, e, s, m, args, below, meth, c, A, Q, rfl, hx, hb, hml, hown, hts, hK, hE, hA, hfin⟩ := h
  have hy : -2147483648 ≤ (0 : Int) ∧ (0 : Int) < 2147483648 := by omega
  intro ls hl H locs hP hD hS
  exact lv_if_eq hx hb d ht (fun z => kt ((iI_eq hx0 hy).mp z) ls hl H locs hP hD hS) (fun z => kf (fun w => z ((iI_eq hx0 hy).mpr w)) ls hl H locs hP hD hS)

theorem w_icmp_ne (h : Cx Wx l D κ ε own cc mL ret R post Γ) {off : Int} {tgt : Nat} {x y : Int} (d : decode cc pc = .ok (.if_icmp .ne off, 3)) (ht : (pc : Int) + off = (tgt : Int)) (hx0 : -2147483648 ≤ x ∧ x < 2147483648) (hy : -2147483648 ≤ y ∧ y < 2147483648) (kt : x ≠ y → WW Γ mL u tgt L st) (kf : x = y → WW Γ mL u (pc + 3) L st) : WW Γ mL u pc L (.int (iI y) :: .int (iI x) :: st) := by
  obtain ⟨p, e, s, m, args, below, meth, c, A, Q, rfl, hx, hb, hml, hown, hts, hK, hE, hA, hfin⟩ := h
  intro ls hl H locs hP hD hS
  exact lv_icmp_ne hx hb d ht (fun z => kt ((fun w => z ((iI_eq hx0 hy).mpr w))) ls hl H locs hP hD hS) (fun z => kf ((iI_eq hx0 hy).mp z) ls hl H locs hP hD hS)

theorem w_if_ne (h : Cx Wx l D κ ε own cc mL ret R post Γ) {off : Int} {tgt : Nat} {x : Int} (d : decode cc pc = .ok (.ifCond .ne off, 3)) (ht : (pc : Int) + off = (tgt : Int)) (hx0 : -2147483648 ≤ x ∧ x < 2147483648)  (kt : x ≠ 0 → WW Γ mL u tgt L st) (kf : x = 0 → WW Γ mL u (pc + 3) L st) : WW Γ mL u pc L (.int (iI x) :: st) := by
  obtain ⟨p, e, s, m, args, below, meth, c, A, Q, rfl, hx, hb, hml, hown, hts, hK, hE, hA, hfin⟩ := h
  have hy : -2147483648 ≤ (0 : Int) ∧ (0 : Int) < 2147483648 := by omega
  intro ls hl H locs hP hD hS
  exact lv_if_ne hx hb d ht (fun z => kt ((fun w => z ((iI_eq hx0 hy).mpr w))) ls hl H locs hP hD hS) (fun z => kf ((iI_eq hx0 hy).mp z) ls hl H locs hP hD hS)

theorem w_icmp_lt (h : Cx Wx l D κ ε own cc mL ret R post Γ) {off : Int} {tgt : Nat} {x y : Int} (d : decode cc pc = .ok (.if_icmp .lt off, 3)) (ht : (pc : Int) + off = (tgt : Int)) (hx0 : -2147483648 ≤ x ∧ x < 2147483648) (hy : -2147483648 ≤ y ∧ y < 2147483648) (kt : x < y → WW Γ mL u tgt L st) (kf : y ≤ x → WW Γ mL u (pc + 3) L st) : WW Γ mL u pc L (.int (iI y) :: .int (iI x) :: st) := by
  obtain ⟨p, e, s, m, args, below, meth, c, A, Q, rfl, hx, hb, hml, hown, hts, hK, hE, hA, hfin⟩ := h
  intro ls hl H locs hP hD hS
  exact lv_icmp_lt hx hb d ht (fun z => kt ((iI_lt hx0 hy).mp z) ls hl H locs hP hD hS) (fun z => kf (Int.not_lt.mp (fun w => z ((iI_lt hx0 hy).mpr w))) ls hl H locs hP hD hS)

theorem w_if_lt (h : Cx Wx l D κ ε own cc mL ret R post Γ) {off : Int} {tgt : Nat} {x : Int} (d : decode cc pc = .ok (.ifCond .lt off, 3)) (ht : (pc : Int) + off = (tgt : Int)) (hx0 : -2147483648 ≤ x ∧ x < 2147483648)  (kt : x < 0 → WW Γ mL u tgt L st) (kf : 0 ≤ x → WW Γ mL u (pc + 3) L st) : WW Γ mL u pc L (.int (iI x) :: st) := by
  obtain ⟨p, e, s, m, args, below, meth, c, A, Q, rfl, hx, hb, hml, hown, hts, hK, hE, hA, hfin⟩ := h
  have hy : -2147483648 ≤ (0 : Int) ∧ (0 : Int) < 2147483648 := by omega
  intro ls hl H locs hP hD hS
  exact lv_if_lt hx hb d ht (fun z => kt ((iI_lt hx0 hy).mp z) ls hl H locs hP hD hS) (fun z => kf (Int.not_lt.mp (fun w => z ((iI_lt hx0 hy).mpr w))) ls hl H locs hP hD hS)

theorem w_icmp_ge (h : Cx Wx l D κ ε own cc mL ret R post Γ) {off : Int} {tgt : Nat} {x y : Int} (d : decode cc pc = .ok (.if_icmp .ge off, 3)) (ht : (pc : Int) + off = (tgt : Int)) (hx0 : -2147483648 ≤ x ∧ x < 2147483648) (hy : -2147483648 ≤ y ∧ y < 2147483648) (kt : y ≤ x → WW Γ mL u tgt L st) (kf : x < y → WW Γ mL u (pc + 3) L st) : WW Γ mL u pc L (.int (iI y) :: .int (iI x) :: st) := by
  obtain ⟨p, e, s, m, args, below, meth, c, A, Q, rfl, hx, hb, hml, hown, hts, hK, hE, hA, hfin⟩ := h
  intro ls hl H locs hP hD hS
  exact lv_icmp_ge hx hb d ht (fun z => kt ((iI_le hy hx0).mp z) ls hl H locs hP hD hS) (fun z => kf (Int.not_le.mp (fun w => z ((iI_le hy hx0).mpr w))) ls hl H locs hP hD hS)

theorem w_if_ge (h : Cx Wx l D κ ε own cc mL ret R post Γ) {off : Int} {tgt : Nat} {x : Int} (d : decode cc pc = .ok (.ifCond .ge off, 3)) (ht : (pc : Int) + off = (tgt : Int)) (hx0 : -2147483648 ≤ x ∧ x < 2147483648)  (kt : 0 ≤ x → WW Γ mL u tgt L st) (kf : x < 0 → WW Γ mL u (pc + 3) L st) : WW Γ mL u pc L (.int (iI x) :: st) := by
  obtain ⟨p, e, s, m, args, below, meth, c, A, Q, rfl, hx, hb, hml, hown, hts, hK, hE, hA, hfin⟩ := h
  have hy : -2147483648 ≤ (0 : Int) ∧ (0 : Int) < 2147483648 := by omega
  intro ls hl H locs hP hD hS
  exact lv_if_ge hx hb d ht (fun z => kt ((iI_le hy hx0).mp z) ls hl H locs hP hD hS) (fun z => kf (Int.not_le.mp (fun w => z ((iI_le hy hx0).mpr w))) ls hl H locs hP hD hS)

theorem w_icmp_gt (h : Cx Wx l D κ ε own cc mL ret R post Γ) {off : Int} {tgt : Nat} {x y : Int} (d : decode cc pc = .ok (.if_icmp .gt off, 3)) (ht : (pc : Int) + off = (tgt : Int)) (hx0 : -2147483648 ≤ x ∧ x < 2147483648) (hy : -2147483648 ≤ y ∧ y < 2147483648) (kt : y < x → WW Γ mL u tgt L st) (kf : x ≤ y → WW Γ mL u (pc + 3) L st) : WW Γ mL u pc L (.int (iI y) :: .int (iI x) :: st) := by
  obtain ⟨p, e, s, m, args, below, meth, c, A, Q, rfl, hx, hb, hml, hown, hts, hK, hE, hA, hfin⟩ := h
  intro ls hl H locs hP hD hS
  exact lv_icmp_gt hx hb d ht (fun z => kt ((iI_lt hy hx0).mp z) ls hl H locs hP hD hS) (fun z => kf (Int.not_lt.mp (fun w => z ((iI_lt hy hx0).mpr w))) ls hl H locs hP hD hS)

theorem w_if_gt (h : Cx Wx l D κ ε own cc mL ret R post Γ) {off : Int} {tgt : Nat} {x : Int} (d : decode cc pc = .ok (.ifCond .gt off, 3)) (ht : (pc : Int) + off = (tgt : Int)) (hx0 : -2147483648 ≤ x ∧ x < 2147483648)  (kt : 0 < x → WW Γ mL u tgt L st) (kf : x ≤ 0 → WW Γ mL u (pc + 3) L st) : WW Γ mL u pc L (.int (iI x) :: st) := by
  obtain ⟨p, e, s, m, args, below, meth, c, A, Q, rfl, hx, hb, hml, hown, hts, hK, hE, hA, hfin⟩ := h
  have hy : -2147483648 ≤ (0 : Int) ∧ (0 : Int) < 2147483648 := by omega
  intro ls hl H locs hP hD hS
  exact lv_if_gt hx hb d ht (fun z => kt ((iI_lt hy hx0).mp z) ls hl H locs hP hD hS) (fun z => kf (Int.not_lt.mp (fun w => z ((iI_lt hy hx0).mpr w))) ls hl H locs hP hD hS)

theorem w_icmp_le (h : Cx Wx l D κ ε own cc mL ret R post Γ) {off : Int} {tgt : Nat} {x y : Int} (d : decode cc pc = .ok (.if_icmp .le off, 3)) (ht : (pc : Int) + off = (tgt : Int)) (hx0 : -2147483648 ≤ x ∧ x < 2147483648) (hy : -2147483648 ≤ y ∧ y < 2147483648) (kt : x ≤ y → WW Γ mL u tgt L st) (kf : y < x → WW Γ mL u (pc + 3) L st) : WW Γ mL u pc L (.int (iI y) :: .int (iI x) :: st) := by
  obtain ⟨p, e, s, m, args, below, meth, c, A, Q, rfl, hx, hb, hml, hown, hts, hK, hE, hA, hfin⟩ := h
  intro ls hl H locs hP hD hS
  exact lv_icmp_le hx hb d ht (fun z => kt ((iI_le hx0 hy).mp z) ls hl H locs hP hD hS) (fun z => kf (Int.not_le.mp (fun w => z ((iI_le hx0 hy).mpr w))) ls hl H locs hP hD hS)

theorem w_if_le (h : Cx Wx l D κ ε own cc mL ret R post Γ) {off : Int} {tgt : Nat} {x : Int} (d : decode cc pc = .ok (.ifCond .le off, 3)) (ht : (pc : Int) + off = (tgt : Int)) (hx0 : -2147483648 ≤ x ∧ x < 2147483648)  (kt : x ≤ 0 → WW Γ mL u tgt L st) (kf : 0 < x → WW Γ mL u (pc + 3) L st) : WW Γ mL u pc L (.int (iI x) :: st) := by
  obtain ⟨p, e, s, m, args, below, meth, c, A, Q, rfl, hx, hb, hml, hown, hts, hK, hE, hA, hfin⟩ := h
  have hy : -2147483648 ≤ (0 : Int) ∧ (0 : Int) < 2147483648 := by omega
  intro ls hl H locs hP hD hS
  exact lv_if_le hx hb d ht (fun z => kt ((iI_le hx0 hy).mp z) ls hl H locs hP hD hS) (fun z => kf (Int.not_le.mp (fun w => z ((iI_le hx0 hy).mpr w))) ls hl H locs hP hD hS)

theorem w_lif_gt (h : Cx Wx l D κ ε own cc mL ret R post Γ) {off : Int} {tgt : Nat} {x y : Int} (d : decode cc pc = .ok (.ifCond .gt off, 3)) (ht : (pc : Int) + off = (tgt : Int)) (hx0 : -9223372036854775808 ≤ x ∧ x < 9223372036854775808) (hy : -9223372036854775808 ≤ y ∧ y < 9223372036854775808) (kt : y < x → WW Γ mL u tgt L st) (kf : x ≤ y → WW Γ mL u (pc + 3) L st) : WW Γ mL u pc L (.int (lg_cmp (lI x) (lI y)) :: st) := by
  obtain ⟨p, e, s, m, args, below, meth, c, A, Q, rfl, hx, hb, hml, hown, hts, hK, hE, hA, hfin⟩ := h
  intro ls hl H locs hP hD hS
  exact lv_if_gt hx hb d ht (fun z => kt (((lg_cmp_gt _ _).trans (lI_lt hy hx0)).mp z) ls hl H locs hP hD hS) (fun z => kf (Int.not_lt.mp (fun w => z (((lg_cmp_gt _ _).trans (lI_lt hy hx0)).mpr w))) ls hl H locs hP hD hS)

theorem w_lif_le (h : Cx Wx l D κ ε own cc mL ret R post Γ) {off : Int} {tgt : Nat} {x y : Int} (d : decode cc pc = .ok (.ifCond .le off, 3)) (ht : (pc : Int) + off = (tgt : Int)) (hx0 : -9223372036854775808 ≤ x ∧ x < 9223372036854775808) (hy : -9223372036854775808 ≤ y ∧ y < 9223372036854775808) (kt : x ≤ y → WW Γ mL u tgt L st) (kf : y < x → WW Γ mL u (pc + 3) L st) : WW Γ mL u pc L (.int (lg_cmp (lI x) (lI y)) :: st) := by
  obtain ⟨p, e, s, m, args, below, meth, c, A, Q, rfl, hx, hb, hml, hown, hts, hK, hE, hA, hfin⟩ := h
  intro ls hl H locs hP hD hS
  exact lv_if_le hx hb d ht (fun z => kt (((lg_cmp_le _ _).trans (lI_le hx0 hy)).mp z) ls hl H locs hP hD hS) (fun z => kf (Int.not_le.mp (fun w => z (((lg_cmp_le _ _).trans (lI_le hx0 hy)).mpr w))) ls hl H locs hP hD hS)

theorem w_lif_ge (h : Cx Wx l D κ ε own cc mL ret R post Γ) {off : Int} {tgt : Nat} {x y : Int} (d : decode cc pc = .ok (.ifCond .ge off, 3)) (ht : (pc : Int) + off = (tgt : Int)) (hx0 : -9223372036854775808 ≤ x ∧ x < 9223372036854775808) (hy : -9223372036854775808 ≤ y ∧ y < 9223372036854775808) (kt : y ≤ x → WW Γ mL u tgt L st) (kf : x < y → WW Γ mL u (pc + 3) L st) : WW Γ mL u pc L (.int (lg_cmp (lI x) (lI y)) :: st) := by
  obtain ⟨p, e, s, m, args, below, meth, c, A, Q, rfl, hx, hb, hml, hown, hts, hK, hE, hA, hfin⟩ := h
  intro ls hl H locs hP hD hS
  exact lv_if_ge hx hb d ht (fun z => kt (((lg_cmp_ge _ _).trans (lI_le hy hx0)).mp z) ls hl H locs hP hD hS) (fun z => kf (Int.not_le.mp (fun w => z (((lg_cmp_ge _ _).trans (lI_le hy hx0)).mpr w))) ls hl H locs hP hD hS)

theorem w_lif_lt (h : Cx Wx l D κ ε own cc mL ret R post Γ) {off : Int} {tgt : Nat} {x y : Int} (d : decode cc pc = .ok (.ifCond .lt off, 3)) (ht : (pc : Int) + off = (tgt : Int)) (hx0 : -9223372036854775808 ≤ x ∧ x < 9223372036854775808) (hy : -9223372036854775808 ≤ y ∧ y < 9223372036854775808) (kt : x < y → WW Γ mL u tgt L st) (kf : y ≤ x → WW Γ mL u (pc + 3) L st) : WW Γ mL u pc L (.int (lg_cmp (lI x) (lI y)) :: st) := by
  obtain ⟨p, e, s, m, args, below, meth, c, A, Q, rfl, hx, hb, hml, hown, hts, hK, hE, hA, hfin⟩ := h
  intro ls hl H locs hP hD hS
  exact lv_if_lt hx hb d ht (fun z => kt (((lg_cmp_lt _ _).trans (lI_lt hx0 hy)).mp z) ls hl H locs hP hD hS) (fun z => kf (Int.not_lt.mp (fun w => z (((lg_cmp_lt _ _).trans (lI_lt hx0 hy)).mpr w))) ls hl H locs hP hD hS)

theorem w_lif_eq (h : Cx Wx l D κ ε own cc mL ret R post Γ) {off : Int} {tgt : Nat} {x y : Int} (d : decode cc pc = .ok (.ifCond .eq off, 3)) (ht : (pc : Int) + off = (tgt : Int)) (hx0 : -9223372036854775808 ≤ x ∧ x < 9223372036854775808) (hy : -9223372036854775808 ≤ y ∧ y < 9223372036854775808) (kt : x = y → WW Γ mL u tgt L st) (kf : x ≠ y → WW Γ mL u (pc + 3) L st) : WW Γ mL u pc L (.int (lg_cmp (lI x) (lI y)) :: st) := by
  obtain ⟨p, e, s, m, args, below, meth, c, A, Q, rfl, hx, hb, hml, hown, hts, hK, hE, hA, hfin⟩ := h
  intro ls hl H locs hP hD hS
  exact lv_if_eq hx hb d ht (fun z => kt (((lg_cmp_eq _ _).trans (lI_eq hx0 hy)).mp z) ls hl H locs hP hD hS) (fun z => kf (fun w => z (((lg_cmp_eq _ _).trans (lI_eq hx0 hy)).mpr w)) ls hl H locs hP hD hS)

theorem w_lif_ne (h : Cx Wx l D κ ε own cc mL ret R post Γ) {off : Int} {tgt : Nat} {x y : Int} (d : decode cc pc = .ok (.ifCond .ne off, 3)) (ht : (pc : Int) + off = (tgt : Int)) (hx0 : -9223372036854775808 ≤ x ∧ x < 9223372036854775808) (hy : -9223372036854775808 ≤ y ∧ y < 9223372036854775808) (kt : x ≠ y → WW Γ mL u tgt L st) (kf : x = y → WW Γ mL u (pc + 3) L st) : WW Γ mL u pc L (.int (lg_cmp (lI x) (lI y)) :: st) := by
  obtain ⟨p, e, s, m, args, below, meth, c, A, Q, rfl, hx, hb, hml, hown, hts, hK, hE, hA, hfin⟩ := h
  intro ls hl H locs hP hD hS
  exact lv_if_ne hx hb d ht (fun z => kt (fun w => z (((lg_cmp_eq _ _).trans (lI_eq hx0 hy)).mpr w)) ls hl H locs hP hD hS) (fun z => kf (((lg_cmp_eq _ _).trans (lI_eq hx0 hy)).mp z) ls hl H locs hP hD hS)

theorem w_tabIn (h : Cx Wx l D κ ε own cc mL ret R post Γ) {dflt lo hi off : Int} {offs : Array Int} {len tgt : Nat} {x : Int} (d : decode cc pc = .ok (.tableswitch dflt lo hi offs, len)) (hx0 : -2147483648 ≤ x ∧ x < 2147483648) (h1 : ¬ x < lo) (h2 : ¬ hi < x) (ho : offs[(x - lo).toNat]? = some off) (ht : (pc : Int) + off = (tgt : Int)) (k : WW Γ mL u tgt L st) : WW Γ mL u pc L (.int (iI x) :: st) := by
  obtain ⟨p, e, s, m, args, below, meth, c, A, Q, rfl, hx, hb, hml, hown, hts, hK, hE, hA, hfin⟩ := h
  intro ls hl H locs hP hD hS
  exact lv_tableIn hx hb d (by rw [iI_toInt hx0]; exact h1) (by rw [iI_toInt hx0]; exact h2) (by rw [iI_toInt hx0]; exact ho) ht (k ls hl H locs hP hD hS)
theorem w_tabOut (h : Cx Wx l D κ ε own cc mL ret R post Γ) {dflt lo hi : Int} {offs : Array Int} {len tgt : Nat} {x : Int} (d : decode cc pc = .ok (.tableswitch dflt lo hi offs, len)) (hx0 : -2147483648 ≤ x ∧ x < 2147483648) (h1 : x < lo ∨ hi < x) (ht : (pc : Int) + dflt = (tgt : Int)) (k : WW Γ mL u tgt L st) : WW Γ mL u pc L (.int (iI x) :: st) := by
  obtain ⟨p, e, s, m, args, below, meth, c, A, Q, rfl, hx, hb, hml, hown, hts, hK, hE, hA, hfin⟩ := h
  intro ls hl H locs hP hD hS
  exact lv_tableOut hx hb d (by rw [iI_toInt hx0]; exact h1) ht (k ls hl H locs hP hD hS)

theorem w_vret (h : Cx Wx l D κ ε own cc mL ret R post Γ) (hr : ret = none) (d : decode cc pc = .ok (.return_, 1)) (hc : (Wx u).2.1 ≤ R.cells) (hs : (Wx u).2.2 ≤ R.slots) (hp : post none u) : WW Γ mL u pc L [] := by
  obtain ⟨p, e, s, m, args, below, meth, c, A, Q, rfl, hx, hb, hml, hown, hts, hK, hE, hA, hfin⟩ := h
  intro ls hl H locs hP hD hS
  exact hfin u pc ls none H locs (Or.inl ⟨rfl, hr, d⟩) hp hc hs hP hD hS

theorem w_iret (h : Cx Wx l D κ ε own cc mL ret R post Γ) {x : Int32} {ty : FieldType} (hr : ret = some ty) (hn : narrow ty (.int x) = .int x) (d : decode cc pc = .ok (.ireturn, 1)) (hc : (Wx u).2.1 ≤ R.cells) (hs : (Wx u).2.2 ≤ R.slots) (hp : post (some (.int x)) u) : WW Γ mL u pc L [.int x] := by
  obtain ⟨p, e, s, m, args, below, meth, c, A, Q, rfl, hx, hb, hml, hown, hts, hK, hE, hA, hfin⟩ := h
  intro ls hl H locs hP hD hS
  exact hfin u pc ls (some (.int x)) H locs (Or.inr (Or.inl ⟨x, ty, rfl, hr, hn, d⟩)) hp hc hs hP hD hS

theorem w_lret (h : Cx Wx l D κ ε own cc mL ret R post Γ) {x : Int64} (hr : ret = some .long) (d : decode cc pc = .ok (.lreturn, 1)) (hc : (Wx u).2.1 ≤ R.cells) (hs : (Wx u).2.2 ≤ R.slots) (hp : post (some (.long x)) u) : WW Γ mL u pc L [.long x] := by
  obtain ⟨p, e, s, m, args, below, meth, c, A, Q, rfl, hx, hb, hml, hown, hts, hK, hE, hA, hfin⟩ := h
  intro ls hl H locs hP hD hS
  exact hfin u pc ls (some (.long x)) H locs (Or.inr (Or.inr (Or.inl ⟨x, rfl, hr, d⟩))) hp hc hs hP hD hS

theorem w_dret (h : Cx Wx l D κ ε own cc mL ret R post Γ) {x : UInt64} (hr : ret = some .double) (d : decode cc pc = .ok (.dreturn, 1)) (hc : (Wx u).2.1 ≤ R.cells) (hs : (Wx u).2.2 ≤ R.slots) (hp : post (some (.double x)) u) : WW Γ mL u pc L [.double x] := by
  obtain ⟨p, e, s, m, args, below, meth, c, A, Q, rfl, hx, hb, hml, hown, hts, hK, hE, hA, hfin⟩ := h
  intro ls hl H locs hP hD hS
  exact hfin u pc ls (some (.double x)) H locs (Or.inr (Or.inr (Or.inr (Or.inl ⟨x, rfl, hr, d⟩)))) hp hc hs hP hD hS

theorem w_aret (h : Cx Wx l D κ ε own cc mL ret R post Γ) {x : Nat} {rt : FieldType} (hr : ret = some rt) (hrt : (∃ n, rt = .object n) ∨ ∃ t, rt = .array t) (d : decode cc pc = .ok (.areturn, 1)) (hc : (Wx u).2.1 ≤ R.cells) (hs : (Wx u).2.2 ≤ R.slots) (hp : post (some (.ref x)) u) : WW Γ mL u pc L [.ref x] := by
  obtain ⟨p, e, s, m, args, below, meth, c, A, Q, rfl, hx, hb, hml, hown, hts, hK, hE, hA, hfin⟩ := h
  intro ls hl H locs hP hD hS
  exact hfin u pc ls (some (.ref x)) H locs (Or.inr (Or.inr (Or.inr (Or.inr ⟨x, rt, rfl, hr, hrt, d⟩)))) hp hc hs hP hD hS

/-- getfield, by the place of the object in the world -/
theorem w_get (h : Cx Wx l D κ ε own cc mL ret R post Γ) {ref C : String} {T : u_T} {N ci index a : Nat} (hin : ∀ w ∈ u_ws C T N, w ∈ Wall) (q0 : Nat) {fs : List Value} (he : (Wx u).1[q0]? = some (a, .inr (ci, fs))) (hc : vwCl[ci]? = some (C, T, N)) (kf : Nat) (hk : kf < N) (hlink : Cond.fieldLink own index ref (T kf).2.1 (T kf).2.2.1 ∈ Wall) (hsame : (T kf).1 = ref) {v : Value} (hv : fs[kf]? = some v) (d : decode cc pc = .ok (.getfield index, 3)) (k : WW Γ mL u (pc + 3) L (v :: st)) : WW Γ mL u pc L (.ref a :: st) := by
  obtain ⟨p, e, s, m, args, below, meth, c, A, Q, rfl, hx, hb, hml, hown, hts, hK, hE, hA, hfin⟩ := h
  intro ls hl H locs hP hD hS
  exact va_get hx hb hts hin hown hK hP q0 he hc kf hk (hts _ hlink) (fun _ h9 => by rw [← hsame]; exact h9) hv d (k ls hl H locs hP hD hS)
theorem w_put (h : Cx Wx l D κ ε own cc mL ret R post Γ) {ref C : String} {T : u_T} {N ci index a : Nat} (hin : ∀ w ∈ u_ws C T N, w ∈ Wall) (ty0 : Nat → FieldType) (hty : ∀ k, k < N → parseFieldDescriptor (T k).2.2.1 = some (ty0 k)) (hnm : ∀ a, a < N → ∀ b, b < N → a ≠ b → (T a).2.1 ≠ (T b).2.1) (q0 : Nat) {fs : List Value} (he : (Wx u).1[q0]? = some (a, .inr (ci, fs))) (hc : vwCl[ci]? = some (C, T, N)) (kf : Nat) (hk : kf < N) (hlink : Cond.fieldLink own index ref (T kf).2.1 (T kf).2.2.1 ∈ Wall) (hsame : (T kf).1 = ref) (hfin : (T kf).2.2.2 = false) {ty : FieldType} {v : Value} (hd : parseFieldDescriptor (T kf).2.2.1 = some ty) (hn : narrow ty v = v) (hfit : fits ty v = true) (hl9 : kf < fs.length) (d : decode cc pc = .ok (.putfield index, 3)) (u' : S) (hu : (Wx u).1.set q0 (a, .inr (ci, fs.set kf v)) = (Wx u').1) (hu2 : (Wx u).2 = (Wx u').2) (k : WW Γ mL u' (pc + 3) L st) : WW Γ mL u pc L (v :: .ref a :: st) := by
  obtain ⟨p, e, s, m, args, below, meth, c, A, Q, rfl, hx, hb, hml, hown, hts, hK, hE, hA, hfin9⟩ := h
  intro ls hl H locs hP hD hS
  refine va_put hx hb hts hin ty0 hty hnm hown hK hP hD hS q0 he hc kf hk (hts _ hlink) (fun _ h9 => by rw [← hsame]; exact h9) hfin hd hn hfit hl9 d (fun H locs hP hD hS => ?_)
  rw [hu] at hP hD
  rw [hu2]
  exact k ls hl H locs hP hD hS
theorem w_iald (h : Cx Wx l D κ ε own cc mL ret R post Γ) {a : Nat} (q0 : Nat) {n : Nat} {f : Nat → Int32} (he : (Wx u).1[q0]? = some (a, .inl (κ 0, n, .inl f))) {i : Int} (hi : 0 ≤ i ∧ i < n) (hn : n < 2147483648) {v : Int32} (hv : f i.toNat = v) (d : decode cc pc = .ok (.iaload, 1)) (k : WW Γ mL u (pc + 1) L (.int v :: st)) : WW Γ mL u pc L (.int (iI i) :: .ref a :: st) := by
  obtain ⟨p, e, s, m, args, below, meth, c, A, Q, rfl, hx, hb, hml, hown, hts, hK, hE, hA, hfin⟩ := h
  intro ls hl H locs hP hD hS
  refine va_iald (f := f) (n := n) hx hb hK hP q0 0 he rfl (iI_in hi hn) d ?_
  rw [iI_clamp hi.1 (by omega), hv]
  exact k ls hl H locs hP hD hS
theorem w_zald (h : Cx Wx l D κ ε own cc mL ret R post Γ) {a : Nat} (q0 : Nat) {n : Nat} {f : Nat → Int32} (he : (Wx u).1[q0]? = some (a, .inl (κ 1, n, .inl f))) {i : Int} (hi : 0 ≤ i ∧ i < n) (hn : n < 2147483648) {v : Int32} (hv : f i.toNat = v) (d : decode cc pc = .ok (.baload, 1)) (k : WW Γ mL u (pc + 1) L (.int v :: st)) : WW Γ mL u pc L (.int (iI i) :: .ref a :: st) := by
  obtain ⟨p, e, s, m, args, below, meth, c, A, Q, rfl, hx, hb, hml, hown, hts, hK, hE, hA, hfin⟩ := h
  intro ls hl H locs hP hD hS
  refine va_zald (f := f) (n := n) hx hb hK hP q0 1 he rfl (iI_in hi hn) d ?_
  rw [iI_clamp hi.1 (by omega), hv]
  exact k ls hl H locs hP hD hS
theorem w_aald (h : Cx Wx l D κ ε own cc mL ret R post Γ) {a : Nat} (q0 : Nat) {n : Nat} {f : Nat → Option Nat} (he : (Wx u).1[q0]? = some (a, .inl (κ 2, n, .inr (.inr (.inr (.inr f)))))) {i : Int} (hi : 0 ≤ i ∧ i < n) (hn : n < 2147483648) {b : Nat} (hv : f i.toNat = some b) (d : decode cc pc = .ok (.aaload, 1)) (k : WW Γ mL u (pc + 1) L (.ref b :: st)) : WW Γ mL u pc L (.int (iI i) :: .ref a :: st) := by
  obtain ⟨p, e, s, m, args, below, meth, c, A, Q, rfl, hx, hb, hml, hown, hts, hK, hE, hA, hfin⟩ := h
  intro ls hl H locs hP hD hS
  refine va_aldq (f := f) (n := n) hx hb hK hP q0 2 he rfl (iI_in hi hn) d ?_
  rw [iI_clamp hi.1 (by omega), hv]
  exact k ls hl H locs hP hD hS
theorem w_iast (h : Cx Wx l D κ ε own cc mL ret R post Γ) {a : Nat} (q0 : Nat) {n : Nat} {f : Nat → Int32} (he : (Wx u).1[q0]? = some (a, .inl (κ 0, n, .inl f))) {i : Int} {x : Int32} (hi : 0 ≤ i ∧ i < n) (hn : n < 2147483648) (d : decode cc pc = .ok (.iastore, 1)) (u' : S) (hu : (Wx u).1.set q0 (a, .inl (κ 0, n, .inl (upd f i.toNat x))) = (Wx u').1) (hu2 : (Wx u).2 = (Wx u').2) (k : WW Γ mL u' (pc + 1) L st) : WW Γ mL u pc L (.int x :: .int (iI i) :: .ref a :: st) := by
  obtain ⟨p, e, s, m, args, below, meth, c, A, Q, rfl, hx, hb, hml, hown, hts, hK, hE, hA, hfin⟩ := h
  intro ls hl H locs hP hD hS
  refine va_iast (f := f) (n := n) hx hb hK hP hD hS q0 0 he rfl (iI_in hi hn) d (fun H locs hP hD hS => ?_)
  rw [iI_clamp hi.1 (by omega), hu] at hP hD
  rw [hu2]
  exact k ls hl H locs hP hD hS
theorem w_zast (h : Cx Wx l D κ ε own cc mL ret R post Γ) {a : Nat} (q0 : Nat) {n : Nat} {f : Nat → Int32} (he : (Wx u).1[q0]? = some (a, .inl (κ 1, n, .inl f))) {i : Int} {x : Int32} (hi : 0 ≤ i ∧ i < n) (hn : n < 2147483648) (hx9 : vp_nar .boolean x = x) (d : decode cc pc = .ok (.bastore, 1)) (u' : S) (hu : (Wx u).1.set q0 (a, .inl (κ 1, n, .inl (upd f i.toNat x))) = (Wx u').1) (hu2 : (Wx u).2 = (Wx u').2) (k : WW Γ mL u' (pc + 1) L st) : WW Γ mL u pc L (.int x :: .int (iI i) :: .ref a :: st) := by
  obtain ⟨p, e, s, m, args, below, meth, c, A, Q, rfl, hx, hb, hml, hown, hts, hK, hE, hA, hfin⟩ := h
  intro ls hl H locs hP hD hS
  refine va_zast (f := f) (n := n) hx hb hK hP hD hS q0 1 he rfl (iI_in hi hn) d (fun H locs hP hD hS => ?_)
  rw [iI_clamp hi.1 (by omega), hx9, hu] at hP hD
  rw [hu2]
  exact k ls hl H locs hP hD hS
theorem w_alen (h : Cx Wx l D κ ε own cc mL ret R post Γ) {a : Nat} (q0 t0 : Nat) {ty : FieldType} {cA : ClassId} {x : vp_A} (he : (Wx u).1[q0]? = some (a, .inl (cA, x))) (ht : (tys κ)[t0]? = some (cA, ty)) (d : decode cc pc = .ok (.arraylength, 1)) (k : WW Γ mL u (pc + 1) L (.int (iI x.1) :: st)) : WW Γ mL u pc L (.ref a :: st) := by
  obtain ⟨p, e, s, m, args, below, meth, c, A, Q, rfl, hx, hb, hml, hown, hts, hK, hE, hA, hfin⟩ := h
  intro ls hl H locs hP hD hS
  exact va_alen hx hb hK hP q0 t0 he ht rfl d (k ls hl H locs hP hD hS)
theorem w_copy (h : Cx Wx l D κ ε own cc mL ret R post Γ) {index a0 a1 : Nat} (hlink : Cond.methodLink own index arraycopyName ∈ Wall) (hnat : Cond.native arraycopyName ∈ Wall) (hstat : Cond.static arraycopyName ∈ Wall) (hini : Cond.initialized "java/lang/System" ∈ Wall) (q0 q1 : Nat) {n0 n1 : Nat} {f g : Nat → Int32} (he0 : (Wx u).1[q0]? = some (a0, .inl (κ 0, n0, .inl f))) (he1 : (Wx u).1[q1]? = some (a1, .inl (κ 0, n1, .inl g))) {sp dp n : Int} (h1 : 0 ≤ sp ∧ sp < 1000000) (h2 : 0 ≤ dp ∧ dp < 1000000) (h3 : 0 ≤ n ∧ n < 1000000) (h4 : sp + n ≤ n0) (h5 : dp + n ≤ n1) (hfr : 1 ≤ R.frames) (hlo : (st.map fun v => v.category).sum + (nativeFrameWords "java/lang/System" "arraycopy" 5 + 11) ≤ R.locals) (d : decode cc pc = .ok (.invokestatic index, 3)) (u' : S) (hu : (Wx u).1.set q1 (a1, .inl (κ 0, n1, .inl (va_cpy f g sp.toNat dp.toNat n.toNat))) = (Wx u').1) (hu2 : (Wx u).2 = (Wx u').2) (k : WW Γ mL u' (pc + 3) L st) : WW Γ mL u pc L (.int (iI n) :: .int (iI dp) :: .ref a1 :: .int (iI sp) :: .ref a0 :: st) := by
  obtain ⟨p, e, s, m, args, below, meth, c, A, Q, rfl, hx, hb, hml, hown, hts, hK, hE, hA, hfin⟩ := h
  intro ls hl H locs hP hD hS
  have e1 := iI_clamp (z := sp) h1.1 (by omega)
  have e2 := iI_clamp (z := dp) h2.1 (by omega)
  have e3 := iI_clamp (z := n) h3.1 (by omega)
  have ng : ∀ z : Int, 0 ≤ z ∧ z < 1000000 → ¬ iI z < 0 := fun z hz hlt => by
    rw [show (0 : Int32) = iI 0 from rfl, iI_lt (by omega) (by omega)] at hlt
    omega
  refine va_copyi (f := f) (g := g) (n0 := n0) (n1 := n1) (c0 := κ 0) (c1 := κ 0) (ty := .int) hx hb (by rw [hml]; exact hl.1.symm) hown (hts _ hlink) (hts _ hnat) (hts _ hstat) (hts _ hini) hK hP hD hS q0 q1 0 0 he0 he1 rfl rfl rfl (ng _ h1) (ng _ h2) (ng _ h3) (by rw [e1, e3]; omega) (by rw [e2, e3]; omega) (fun _ _ => rfl) hfr hlo d (fun H locs hP hD hS => ?_)
  rw [e1, e2, e3, hu] at hP hD
  rw [hu2]
  exact k ls hl H locs hP hD hS
/-- Math.max, Math.min -/
theorem w_imax (h : Cx Wx l D κ ε own cc mL ret R post Γ) {index : Nat} (hlink : Cond.methodLink own index Lib.Math.max.name ∈ Wall) (hstat : Cond.static Lib.Math.max.name ∈ Wall) (hini : Cond.initialized "java/lang/Math" ∈ Wall) (hcode : Cond.code Lib.Math.max.name Lib.Math.max.code 2 (some .int) ∈ Wall) (hfr : 1 ≤ R.frames) (hlo : (st.map fun v => v.category).sum + 13 ≤ R.locals) (hc : (Wx u).2.1 ≤ R.cells) (hs : (Wx u).2.2 ≤ R.slots) {x y z : Int} (hx0 : -2147483648 ≤ x ∧ x < 2147483648) (hy : -2147483648 ≤ y ∧ y < 2147483648) (hz : (if x < y then y else x) = z) (d : decode cc pc = .ok (.invokestatic index, 3)) (k : WW Γ mL u (pc + 3) L (.int (iI z) :: st)) : WW Γ mL u pc L (.int (iI y) :: .int (iI x) :: st) := by
  obtain ⟨p, e, s, m, args, below, meth, c, A, Q, rfl, hx, hb, hml, hown, hts, hK, hE, hA, hfin⟩ := h
  intro ls hl H locs hP hD hS
  refine va_mmax hx hb (by rw [hml]; exact hl.1.symm) hown (hts _ hlink) (hts _ hstat) (hts _ hini) (hts _ hcode) hfr hlo hc hs d ?_
  have e : (if iI x < iI y then iI y else iI x) = iI z := by
    rw [← hz]
    by_cases q : x < y
    · rw [if_pos ((iI_lt hx0 hy).mpr q), if_pos q]
    · rw [if_neg (fun w => q ((iI_lt hx0 hy).mp w)), if_neg q]
  rw [e]
  exact k ls hl H locs hP hD hS
theorem w_imin (h : Cx Wx l D κ ε own cc mL ret R post Γ) {index : Nat} (hlink : Cond.methodLink own index Lib.Math.min.name ∈ Wall) (hstat : Cond.static Lib.Math.min.name ∈ Wall) (hini : Cond.initialized "java/lang/Math" ∈ Wall) (hcode : Cond.code Lib.Math.min.name Lib.Math.min.code 2 (some .int) ∈ Wall) (hfr : 1 ≤ R.frames) (hlo : (st.map fun v => v.category).sum + 13 ≤ R.locals) (hc : (Wx u).2.1 ≤ R.cells) (hs : (Wx u).2.2 ≤ R.slots) {x y z : Int} (hx0 : -2147483648 ≤ x ∧ x < 2147483648) (hy : -2147483648 ≤ y ∧ y < 2147483648) (hz : (if y < x then y else x) = z) (d : decode cc pc = .ok (.invokestatic index, 3)) (k : WW Γ mL u (pc + 3) L (.int (iI z) :: st)) : WW Γ mL u pc L (.int (iI y) :: .int (iI x) :: st) := by
  obtain ⟨p, e, s, m, args, below, meth, c, A, Q, rfl, hx, hb, hml, hown, hts, hK, hE, hA, hfin⟩ := h
  intro ls hl H locs hP hD hS
  refine va_mmin hx hb (by rw [hml]; exact hl.1.symm) hown (hts _ hlink) (hts _ hstat) (hts _ hini) (hts _ hcode) hfr hlo hc hs d ?_
  have e : (if iI y < iI x then iI y else iI x) = iI z := by
    rw [← hz]
    by_cases q : y < x
    · rw [if_pos ((iI_lt hy hx0).mpr q), if_pos q]
    · rw [if_neg (fun w => q ((iI_lt hy hx0).mp w)), if_neg q]
  rw [e]
  exact k ls hl H locs hP hD hS
theorem w_lmax (h : Cx Wx l D κ ε own cc mL ret R post Γ) {index : Nat} (hlink : Cond.methodLink own index Lib.MathLoose.max_long.x ∈ Wall) (hstat : Cond.static Lib.MathLoose.max_long.x ∈ Wall) (hini : Cond.initialized "java/lang/Math" ∈ Wall) (hcode : Cond.code Lib.MathLoose.max_long.x Lib.MathLoose.max_long.code 4 (some .long) ∈ Wall) (hfr : 1 ≤ R.frames) (hlo : (st.map fun v => v.category).sum + 15 ≤ R.locals) (hc : (Wx u).2.1 ≤ R.cells) (hs : (Wx u).2.2 ≤ R.slots) {x y z : Int} (hx0 : -9223372036854775808 ≤ x ∧ x < 9223372036854775808) (hy : -9223372036854775808 ≤ y ∧ y < 9223372036854775808) (hz : (if y < x then x else y) = z) (d : decode cc pc = .ok (.invokestatic index, 3)) (k : WW Γ mL u (pc + 3) L (.long (lI z) :: st)) : WW Γ mL u pc L (.long (lI y) :: .long (lI x) :: st) := by
  obtain ⟨p, e, s, m, args, below, meth, c, A, Q, rfl, hx, hb, hml, hown, hts, hK, hE, hA, hfin⟩ := h
  intro ls hl H locs hP hD hS
  refine va_mmax_long hx hb (by rw [hml]; exact hl.1.symm) hown (hts _ hlink) (hts _ hstat) (hts _ hini) (hts _ hcode) hfr hlo hc hs d ?_
  have e : (if lI y < lI x then lI x else lI y) = lI z := by
    rw [← hz]
    by_cases q : y < x
    · rw [if_pos ((lI_lt hy hx0).mpr q), if_pos q]
    · rw [if_neg (fun w => q ((lI_lt hy hx0).mp w)), if_neg q]
  rw [e]
  exact k ls hl H locs hP hD hS
/-- POWERS, of the class itself, of a nest mate -/
theorem w_pows (h : Cx Wx l D κ ε own cc mL ret R post Γ) {index : Nat} (hlink : Cond.fieldLink own index "Canticle" "POWERS" "[I" ∈ Wall) (d : decode cc pc = .ok (.getstatic index, 3)) (k : WW Γ mL u (pc + 3) L (.ref ε :: st)) : WW Γ mL u pc L st := by
  obtain ⟨p, e, s, m, args, below, meth, c, A, Q, rfl, hx, hb, hml, hown, hts, hK, hE, hA, hfin⟩ := h
  intro ls hl H locs hP hD hS
  exact va_gets hx hb hE.1 hS hown (hts _ hlink) (fun _ h9 => h9) d (k ls hl H locs hP hD hS)
theorem w_powsN (h : Cx Wx l D κ ε own cc mL ret R post Γ) {index : Nat} (hlink : ∀ U : State, Wn U → va_Nw (.fieldLinkNest own index "Canticle" "POWERS" "[I" "Canticle") U) (d : decode cc pc = .ok (.getstatic index, 3)) (k : WW Γ mL u (pc + 3) L (.ref ε :: st)) : WW Γ mL u pc L st := by
  obtain ⟨p, e, s, m, args, below, meth, c, A, Q, rfl, hx, hb, hml, hown, hts, hK, hE, hA, hfin⟩ := h
  intro ls hl H locs hP hD hS
  exact va_getsN hx hb hE.1 hS hown (va_Nw.use rfl (hlink s hE.2.2)) (fun _ h9 => h9) d (k ls hl H locs hP hD hS)
theorem w_pow (h : Cx Wx l D κ ε own cc mL ret R post Γ) {i : Int} (hi : 0 ≤ i ∧ i < 5) {z : Int} (hz : pw i.toNat = z) (d : decode cc pc = .ok (.iaload, 1)) (k : WW Γ mL u (pc + 1) L (.int (iI z) :: st)) : WW Γ mL u pc L (.int (iI i) :: .ref ε :: st) := by
  obtain ⟨p, e, s, m, args, below, meth, c, A, Q, rfl, hx, hb, hml, hown, hts, hK, hE, hA, hfin⟩ := h
  intro ls hl H locs hP hD hS
  refine va_ti hx hb hE.2.1 hS (iI_in (n := 5) hi (by omega)) (v := .int (iI z)) ?_ d (k ls hl H locs hP hD hS)
  show Value.int (iI (pw (iI i).toNatClampNeg)) = _
  rw [iI_clamp hi.1 (by omega), hz]

theorem w_callV0 (h : Cx Wx l D κ ε own cc mL ret R post Γ) {y : MethodName} {cy : ByteArray} {mLy : Nat} {rety : Option FieldType} {fr lo mc ms index : Nat} {ps : Option Value → S → Prop} {C : String} {T9 : u_T} {N9 ci b : Nat} {fs : List Value}  (hc : Ct Wx l D κ ε y cy mLy rety fr lo mc ms u [.ref b] ps) (q0 : Nat) (hq : (Wx u).1[q0]? = some (b, .inr (ci, fs))) (hcl : vwCl[ci]? = some (C, T9, N9)) (hG : GoodIn Wall (wsV own index C y (Cond.code y cy mLy rety :: Wall))) (hd : y.cls = C ∧ y.cls ≠ "java/lang/invoke/MethodHandle" ∧ y.cls ≠ "java/lang/invoke/VarHandle" ∧ (parseMethodDescriptor y.desc).map (fun d => d.parameters.length) = some 0) (hR : fr + 1 ≤ R.frames ∧ 8 + (mLy + 11) + lo ≤ R.locals) (hf : (Wx u).2.1 + mc ≤ R.cells ∧ (Wx u).2.2 + ms ≤ R.slots) (hcn : ∀ v u', ps v u' → (Wx u').2.1 = (Wx u).2.1 + mc ∧ (Wx u').2.2 = (Wx u).2.2 + ms) (hW8 : (st.map fun v => v.category).sum ≤ 8) (d : decode cc pc = .ok (.invokevirtual index, 3)) (k : ∀ v u', ps v u' → WW Γ mL u' (pc + 3) L (v.toList ++ st)) : WW Γ mL u pc L (.ref b :: st) := by
  obtain ⟨p, e, s, m, args, below, meth, c, A, Q, rfl, hx, hb, hml, hown, hts, hK, hE, hA, hfin⟩ := h
  intro ls hl H locs hP hD hS
  have hF : ∀ q, va_A (Wx u).1 H.size q → A q := fun q hq => by
    rcases hq with ⟨i, e9, hi⟩ | hq
    · exact hD.2 i (q, e9) hi
    · exact hA q (Nat.le_trans hS.1 hq)
  have hpre : ∀ U : State, U.heap = H → s.WarmedH U.vm → va_Pc ([.ref b]) (PreW D κ ε (Wx u).1 H.size) ([.ref b]).toArray U := fun U hU hW => ⟨rfl, by rw [hU], by rw [hU]; exact hP, va_K.moved hW.alike hK, hD.weaken (fun _ _ _ _ => trivial), by rw [hU]; exact (((hE.kept hS.2.1).narrow hF).warm hW)⟩
  have hrun : va_Run p l e R s m args below meth c H locs (Wx u).2.1 (Wx u).2.2 mc ms (F0 m pc ls (.ref b :: st)) st (QW Wx D κ (va_A (Wx u).1 H.size) ps ([.ref b]).toArray) (va_A (Wx u).1 H.size) := va_runV (As := []) ⟨hx, hb, hml, hown, hts⟩ (hc H.size) (cwV 0 hts hG rfl rfl rfl hd hR) ⟨preW_blind, va_recv hK hP hcl hq, hpre⟩ rfl rfl hl.1 rfl (lv_room hW8) d hf
  intro T hT X
  obtain ⟨v, st₀, t, T', L9, h0, X', hL, e1, e2, ⟨⟨v9, u', hv, hp, hb1, hb2, hb3⟩, hz, hk⟩, stp⟩ := hrun T hT X
  cases hv
  rw [h0] at hz hk
  obtain ⟨i1, i2⟩ := hcn v u' hp
  have hS1 : va_S A s.heap T'.heap (locs ++ L9) := ⟨Nat.le_trans hS.1 (by rw [e1]; exact hz), fun q h1 h2 => by
      rw [e1, hk q (Nat.lt_of_lt_of_le h1 hS.1) (fun z => h2 (hF q z))]
      exact hS.2.1 q h1 h2, fun q hq => by
      rcases List.mem_append.mp hq with h | h
      · exact hS.2.2 q h
      · exact hF _ (hL q h)⟩
  obtain ⟨t2, a1, b1⟩ := k v u' hp ls hl T'.heap (locs ++ L9) (by rw [e1]; exact hb1) (hb3.weaken (fun k q _ h => hF q.1 h)) hS1 T' rfl (by rw [i1, i2]; exact X')
  exact ⟨t2, stp t2 a1, b1⟩

theorem w_callV1 (h : Cx Wx l D κ ε own cc mL ret R post Γ) {y : MethodName} {cy : ByteArray} {mLy : Nat} {rety : Option FieldType} {fr lo mc ms index : Nat} {ps : Option Value → S → Prop} {C : String} {T9 : u_T} {N9 ci b : Nat} {fs : List Value} {x1 : Value}  (hc : Ct Wx l D κ ε y cy mLy rety fr lo mc ms u [.ref b, x1] ps) (q0 : Nat) (hq : (Wx u).1[q0]? = some (b, .inr (ci, fs))) (hcl : vwCl[ci]? = some (C, T9, N9)) (hG : GoodIn Wall (wsV own index C y (Cond.code y cy mLy rety :: Wall))) (hd : y.cls = C ∧ y.cls ≠ "java/lang/invoke/MethodHandle" ∧ y.cls ≠ "java/lang/invoke/VarHandle" ∧ (parseMethodDescriptor y.desc).map (fun d => d.parameters.length) = some 1) (hR : fr + 1 ≤ R.frames ∧ 8 + (mLy + 11) + lo ≤ R.locals) (hf : (Wx u).2.1 + mc ≤ R.cells ∧ (Wx u).2.2 + ms ≤ R.slots) (hcn : ∀ v u', ps v u' → (Wx u').2.1 = (Wx u).2.1 + mc ∧ (Wx u').2.2 = (Wx u).2.2 + ms) (hW8 : (st.map fun v => v.category).sum ≤ 8) (d : decode cc pc = .ok (.invokevirtual index, 3)) (k : ∀ v u', ps v u' → WW Γ mL u' (pc + 3) L (v.toList ++ st)) : WW Γ mL u pc L (x1 :: .ref b :: st) := by
  obtain ⟨p, e, s, m, args, below, meth, c, A, Q, rfl, hx, hb, hml, hown, hts, hK, hE, hA, hfin⟩ := h
  intro ls hl H locs hP hD hS
  have hF : ∀ q, va_A (Wx u).1 H.size q → A q := fun q hq => by
    rcases hq with ⟨i, e9, hi⟩ | hq
    · exact hD.2 i (q, e9) hi
    · exact hA q (Nat.le_trans hS.1 hq)
  have hpre : ∀ U : State, U.heap = H → s.WarmedH U.vm → va_Pc ([.ref b, x1]) (PreW D κ ε (Wx u).1 H.size) ([.ref b, x1]).toArray U := fun U hU hW => ⟨rfl, by rw [hU], by rw [hU]; exact hP, va_K.moved hW.alike hK, hD.weaken (fun _ _ _ _ => trivial), by rw [hU]; exact (((hE.kept hS.2.1).narrow hF).warm hW)⟩
  have hrun : va_Run p l e R s m args below meth c H locs (Wx u).2.1 (Wx u).2.2 mc ms (F0 m pc ls (x1 :: .ref b :: st)) st (QW Wx D κ (va_A (Wx u).1 H.size) ps ([.ref b, x1]).toArray) (va_A (Wx u).1 H.size) := va_runV (As := [x1]) ⟨hx, hb, hml, hown, hts⟩ (hc H.size) (cwV 1 hts hG rfl rfl rfl hd hR) ⟨preW_blind, va_recv hK hP hcl hq, hpre⟩ rfl rfl hl.1 rfl (lv_room hW8) d hf
  intro T hT X
  obtain ⟨v, st₀, t, T', L9, h0, X', hL, e1, e2, ⟨⟨v9, u', hv, hp, hb1, hb2, hb3⟩, hz, hk⟩, stp⟩ := hrun T hT X
  cases hv
  rw [h0] at hz hk
  obtain ⟨i1, i2⟩ := hcn v u' hp
  have hS1 : va_S A s.heap T'.heap (locs ++ L9) := ⟨Nat.le_trans hS.1 (by rw [e1]; exact hz), fun q h1 h2 => by
      rw [e1, hk q (Nat.lt_of_lt_of_le h1 hS.1) (fun z => h2 (hF q z))]
      exact hS.2.1 q h1 h2, fun q hq => by
      rcases List.mem_append.mp hq with h | h
      · exact hS.2.2 q h
      · exact hF _ (hL q h)⟩
  obtain ⟨t2, a1, b1⟩ := k v u' hp ls hl T'.heap (locs ++ L9) (by rw [e1]; exact hb1) (hb3.weaken (fun k q _ h => hF q.1 h)) hS1 T' rfl (by rw [i1, i2]; exact X')
  exact ⟨t2, stp t2 a1, b1⟩

theorem w_callV2 (h : Cx Wx l D κ ε own cc mL ret R post Γ) {y : MethodName} {cy : ByteArray} {mLy : Nat} {rety : Option FieldType} {fr lo mc ms index : Nat} {ps : Option Value → S → Prop} {C : String} {T9 : u_T} {N9 ci b : Nat} {fs : List Value} {x1 x2 : Value}  (hc : Ct Wx l D κ ε y cy mLy rety fr lo mc ms u [.ref b, x1, x2] ps) (q0 : Nat) (hq : (Wx u).1[q0]? = some (b, .inr (ci, fs))) (hcl : vwCl[ci]? = some (C, T9, N9)) (hG : GoodIn Wall (wsV own index C y (Cond.code y cy mLy rety :: Wall))) (hd : y.cls = C ∧ y.cls ≠ "java/lang/invoke/MethodHandle" ∧ y.cls ≠ "java/lang/invoke/VarHandle" ∧ (parseMethodDescriptor y.desc).map (fun d => d.parameters.length) = some 2) (hR : fr + 1 ≤ R.frames ∧ 8 + (mLy + 11) + lo ≤ R.locals) (hf : (Wx u).2.1 + mc ≤ R.cells ∧ (Wx u).2.2 + ms ≤ R.slots) (hcn : ∀ v u', ps v u' → (Wx u').2.1 = (Wx u).2.1 + mc ∧ (Wx u').2.2 = (Wx u).2.2 + ms) (hW8 : (st.map fun v => v.category).sum ≤ 8) (d : decode cc pc = .ok (.invokevirtual index, 3)) (k : ∀ v u', ps v u' → WW Γ mL u' (pc + 3) L (v.toList ++ st)) : WW Γ mL u pc L (x2 :: x1 :: .ref b :: st) := by
  obtain ⟨p, e, s, m, args, below, meth, c, A, Q, rfl, hx, hb, hml, hown, hts, hK, hE, hA, hfin⟩ := h
  intro ls hl H locs hP hD hS
  have hF : ∀ q, va_A (Wx u).1 H.size q → A q := fun q hq => by
    rcases hq with ⟨i, e9, hi⟩ | hq
    · exact hD.2 i (q, e9) hi
    · exact hA q (Nat.le_trans hS.1 hq)
  have hpre : ∀ U : State, U.heap = H → s.WarmedH U.vm → va_Pc ([.ref b, x1, x2]) (PreW D κ ε (Wx u).1 H.size) ([.ref b, x1, x2]).toArray U := fun U hU hW => ⟨rfl, by rw [hU], by rw [hU]; exact hP, va_K.moved hW.alike hK, hD.weaken (fun _ _ _ _ => trivial), by rw [hU]; exact (((hE.kept hS.2.1).narrow hF).warm hW)⟩
  have hrun : va_Run p l e R s m args below meth c H locs (Wx u).2.1 (Wx u).2.2 mc ms (F0 m pc ls (x2 :: x1 :: .ref b :: st)) st (QW Wx D κ (va_A (Wx u).1 H.size) ps ([.ref b, x1, x2]).toArray) (va_A (Wx u).1 H.size) := va_runV (As := [x1, x2]) ⟨hx, hb, hml, hown, hts⟩ (hc H.size) (cwV 2 hts hG rfl rfl rfl hd hR) ⟨preW_blind, va_recv hK hP hcl hq, hpre⟩ rfl rfl hl.1 rfl (lv_room hW8) d hf
  intro T hT X
  obtain ⟨v, st₀, t, T', L9, h0, X', hL, e1, e2, ⟨⟨v9, u', hv, hp, hb1, hb2, hb3⟩, hz, hk⟩, stp⟩ := hrun T hT X
  cases hv
  rw [h0] at hz hk
  obtain ⟨i1, i2⟩ := hcn v u' hp
  have hS1 : va_S A s.heap T'.heap (locs ++ L9) := ⟨Nat.le_trans hS.1 (by rw [e1]; exact hz), fun q h1 h2 => by
      rw [e1, hk q (Nat.lt_of_lt_of_le h1 hS.1) (fun z => h2 (hF q z))]
      exact hS.2.1 q h1 h2, fun q hq => by
      rcases List.mem_append.mp hq with h | h
      · exact hS.2.2 q h
      · exact hF _ (hL q h)⟩
  obtain ⟨t2, a1, b1⟩ := k v u' hp ls hl T'.heap (locs ++ L9) (by rw [e1]; exact hb1) (hb3.weaken (fun k q _ h => hF q.1 h)) hS1 T' rfl (by rw [i1, i2]; exact X')
  exact ⟨t2, stp t2 a1, b1⟩

theorem w_callV3 (h : Cx Wx l D κ ε own cc mL ret R post Γ) {y : MethodName} {cy : ByteArray} {mLy : Nat} {rety : Option FieldType} {fr lo mc ms index : Nat} {ps : Option Value → S → Prop} {C : String} {T9 : u_T} {N9 ci b : Nat} {fs : List Value} {x1 x2 x3 : Value}  (hc : Ct Wx l D κ ε y cy mLy rety fr lo mc ms u [.ref b, x1, x2, x3] ps) (q0 : Nat) (hq : (Wx u).1[q0]? = some (b, .inr (ci, fs))) (hcl : vwCl[ci]? = some (C, T9, N9)) (hG : GoodIn Wall (wsV own index C y (Cond.code y cy mLy rety :: Wall))) (hd : y.cls = C ∧ y.cls ≠ "java/lang/invoke/MethodHandle" ∧ y.cls ≠ "java/lang/invoke/VarHandle" ∧ (parseMethodDescriptor y.desc).map (fun d => d.parameters.length) = some 3) (hR : fr + 1 ≤ R.frames ∧ 8 + (mLy + 11) + lo ≤ R.locals) (hf : (Wx u).2.1 + mc ≤ R.cells ∧ (Wx u).2.2 + ms ≤ R.slots) (hcn : ∀ v u', ps v u' → (Wx u').2.1 = (Wx u).2.1 + mc ∧ (Wx u').2.2 = (Wx u).2.2 + ms) (hW8 : (st.map fun v => v.category).sum ≤ 8) (d : decode cc pc = .ok (.invokevirtual index, 3)) (k : ∀ v u', ps v u' → WW Γ mL u' (pc + 3) L (v.toList ++ st)) : WW Γ mL u pc L (x3 :: x2 :: x1 :: .ref b :: st) := by
  obtain ⟨p, e, s, m, args, below, meth, c, A, Q, rfl, hx, hb, hml, hown, hts, hK, hE, hA, hfin⟩ := h
  intro ls hl H locs hP hD hS
  have hF : ∀ q, va_A (Wx u).1 H.size q → A q := fun q hq => by
    rcases hq with ⟨i, e9, hi⟩ | hq
    · exact hD.2 i (q, e9) hi
    · exact hA q (Nat.le_trans hS.1 hq)
  have hpre : ∀ U : State, U.heap = H → s.WarmedH U.vm → va_Pc ([.ref b, x1, x2, x3]) (PreW D κ ε (Wx u).1 H.size) ([.ref b, x1, x2, x3]).toArray U := fun U hU hW => ⟨rfl, by rw [hU], by rw [hU]; exact hP, va_K.moved hW.alike hK, hD.weaken (fun _ _ _ _ => trivial), by rw [hU]; exact (((hE.kept hS.2.1).narrow hF).warm hW)⟩
  have hrun : va_Run p l e R s m args below meth c H locs (Wx u).2.1 (Wx u).2.2 mc ms (F0 m pc ls (x3 :: x2 :: x1 :: .ref b :: st)) st (QW Wx D κ (va_A (Wx u).1 H.size) ps ([.ref b, x1, x2, x3]).toArray) (va_A (Wx u).1 H.size) := va_runV (As := [x1, x2, x3]) ⟨hx, hb, hml, hown, hts⟩ (hc H.size) (cwV 3 hts hG rfl rfl rfl hd hR) ⟨preW_blind, va_recv hK hP hcl hq, hpre⟩ rfl rfl hl.1 rfl (lv_room hW8) d hf
  intro T hT X
  obtain ⟨v, st₀, t, T', L9, h0, X', hL, e1, e2, ⟨⟨v9, u', hv, hp, hb1, hb2, hb3⟩, hz, hk⟩, stp⟩ := hrun T hT X
  cases hv
  rw [h0] at hz hk
  obtain ⟨i1, i2⟩ := hcn v u' hp
  have hS1 : va_S A s.heap T'.heap (locs ++ L9) := ⟨Nat.le_trans hS.1 (by rw [e1]; exact hz), fun q h1 h2 => by
      rw [e1, hk q (Nat.lt_of_lt_of_le h1 hS.1) (fun z => h2 (hF q z))]
      exact hS.2.1 q h1 h2, fun q hq => by
      rcases List.mem_append.mp hq with h | h
      · exact hS.2.2 q h
      · exact hF _ (hL q h)⟩
  obtain ⟨t2, a1, b1⟩ := k v u' hp ls hl T'.heap (locs ++ L9) (by rw [e1]; exact hb1) (hb3.weaken (fun k q _ h => hF q.1 h)) hS1 T' rfl (by rw [i1, i2]; exact X')
  exact ⟨t2, stp t2 a1, b1⟩

theorem w_callS1 (h : Cx Wx l D κ ε own cc mL ret R post Γ) {y : MethodName} {cy : ByteArray} {mLy : Nat} {rety : Option FieldType} {fr lo mc ms index : Nat} {ps : Option Value → S → Prop} {x1 : Value} (hc : Ct Wx l D κ ε y cy mLy rety fr lo mc ms u [x1] ps) (hG : GoodIn Wall (va_wsS own index y (Cond.code y cy mLy rety :: Wall))) (hd : y.cls ≠ "java/lang/invoke/MethodHandle" ∧ y.cls ≠ "java/lang/invoke/VarHandle" ∧ (parseMethodDescriptor y.desc).map (fun d => d.parameters.length) = some 1) (hR : fr + 1 ≤ R.frames ∧ 8 + (mLy + 11) + lo ≤ R.locals) (hf : (Wx u).2.1 + mc ≤ R.cells ∧ (Wx u).2.2 + ms ≤ R.slots) (hcn : ∀ v u', ps v u' → (Wx u').2.1 = (Wx u).2.1 + mc ∧ (Wx u').2.2 = (Wx u).2.2 + ms) (hW8 : (st.map fun v => v.category).sum ≤ 8) (d : decode cc pc = .ok (.invokestatic index, 3)) (k : ∀ v u', ps v u' → WW Γ mL u' (pc + 3) L (v.toList ++ st)) : WW Γ mL u pc L (x1 :: st) := by
  obtain ⟨p, e, s, m, args, below, meth, c, A, Q, rfl, hx, hb, hml, hown, hts, hK, hE, hA, hfin⟩ := h
  intro ls hl H locs hP hD hS
  have hF : ∀ q, va_A (Wx u).1 H.size q → A q := fun q hq => by
    rcases hq with ⟨i, e9, hi⟩ | hq
    · exact hD.2 i (q, e9) hi
    · exact hA q (Nat.le_trans hS.1 hq)
  have hpre : ∀ U : State, U.heap = H → s.WarmedH U.vm → va_Pc ([x1]) (PreW D κ ε (Wx u).1 H.size) ([x1]).toArray U := fun U hU hW => ⟨rfl, by rw [hU], by rw [hU]; exact hP, va_K.moved hW.alike hK, hD.weaken (fun _ _ _ _ => trivial), by rw [hU]; exact (((hE.kept hS.2.1).narrow hF).warm hW)⟩
  have hrun : va_Run p l e R s m args below meth c H locs (Wx u).2.1 (Wx u).2.2 mc ms (F0 m pc ls (x1 :: st)) st (QW Wx D κ (va_A (Wx u).1 H.size) ps ([x1]).toArray) (va_A (Wx u).1 H.size) := va_runS (As := [x1]) ⟨hx, hb, hml, hown, hts⟩ (hc H.size) (va_cwS 1 hts hG rfl rfl rfl hd hR) ⟨preW_blind, hpre⟩ rfl rfl hl.1 rfl (lv_room hW8) d hf
  intro T hT X
  obtain ⟨v, st₀, t, T', L9, h0, X', hL, e1, e2, ⟨⟨v9, u', hv, hp, hb1, hb2, hb3⟩, hz, hk⟩, stp⟩ := hrun T hT X
  cases hv
  rw [h0] at hz hk
  obtain ⟨i1, i2⟩ := hcn v u' hp
  have hS1 : va_S A s.heap T'.heap (locs ++ L9) := ⟨Nat.le_trans hS.1 (by rw [e1]; exact hz), fun q h1 h2 => by
      rw [e1, hk q (Nat.lt_of_lt_of_le h1 hS.1) (fun z => h2 (hF q z))]
      exact hS.2.1 q h1 h2, fun q hq => by
      rcases List.mem_append.mp hq with h | h
      · exact hS.2.2 q h
      · exact hF _ (hL q h)⟩
  obtain ⟨t2, a1, b1⟩ := k v u' hp ls hl T'.heap (locs ++ L9) (by rw [e1]; exact hb1) (hb3.weaken (fun k q _ h => hF q.1 h)) hS1 T' rfl (by rw [i1, i2]; exact X')
  exact ⟨t2, stp t2 a1, b1⟩

theorem w_callS2 (h : Cx Wx l D κ ε own cc mL ret R post Γ) {y : MethodName} {cy : ByteArray} {mLy : Nat} {rety : Option FieldType} {fr lo mc ms index : Nat} {ps : Option Value → S → Prop} {x1 x2 : Value} (hc : Ct Wx l D κ ε y cy mLy rety fr lo mc ms u [x1, x2] ps) (hG : GoodIn Wall (va_wsS own index y (Cond.code y cy mLy rety :: Wall))) (hd : y.cls ≠ "java/lang/invoke/MethodHandle" ∧ y.cls ≠ "java/lang/invoke/VarHandle" ∧ (parseMethodDescriptor y.desc).map (fun d => d.parameters.length) = some 2) (hR : fr + 1 ≤ R.frames ∧ 8 + (mLy + 11) + lo ≤ R.locals) (hf : (Wx u).2.1 + mc ≤ R.cells ∧ (Wx u).2.2 + ms ≤ R.slots) (hcn : ∀ v u', ps v u' → (Wx u').2.1 = (Wx u).2.1 + mc ∧ (Wx u').2.2 = (Wx u).2.2 + ms) (hW8 : (st.map fun v => v.category).sum ≤ 8) (d : decode cc pc = .ok (.invokestatic index, 3)) (k : ∀ v u', ps v u' → WW Γ mL u' (pc + 3) L (v.toList ++ st)) : WW Γ mL u pc L (x2 :: x1 :: st) := by
  obtain ⟨p, e, s, m, args, below, meth, c, A, Q, rfl, hx, hb, hml, hown, hts, hK, hE, hA, hfin⟩ := h
  intro ls hl H locs hP hD hS
  have hF : ∀ q, va_A (Wx u).1 H.size q → A q := fun q hq => by
    rcases hq with ⟨i, e9, hi⟩ | hq
    · exact hD.2 i (q, e9) hi
    · exact hA q (Nat.le_trans hS.1 hq)
  have hpre : ∀ U : State, U.heap = H → s.WarmedH U.vm → va_Pc ([x1, x2]) (PreW D κ ε (Wx u).1 H.size) ([x1, x2]).toArray U := fun U hU hW => ⟨rfl, by rw [hU], by rw [hU]; exact hP, va_K.moved hW.alike hK, hD.weaken (fun _ _ _ _ => trivial), by rw [hU]; exact (((hE.kept hS.2.1).narrow hF).warm hW)⟩
  have hrun : va_Run p l e R s m args below meth c H locs (Wx u).2.1 (Wx u).2.2 mc ms (F0 m pc ls (x2 :: x1 :: st)) st (QW Wx D κ (va_A (Wx u).1 H.size) ps ([x1, x2]).toArray) (va_A (Wx u).1 H.size) := va_runS (As := [x1, x2]) ⟨hx, hb, hml, hown, hts⟩ (hc H.size) (va_cwS 2 hts hG rfl rfl rfl hd hR) ⟨preW_blind, hpre⟩ rfl rfl hl.1 rfl (lv_room hW8) d hf
  intro T hT X
  obtain ⟨v, st₀, t, T', L9, h0, X', hL, e1, e2, ⟨⟨v9, u', hv, hp, hb1, hb2, hb3⟩, hz, hk⟩, stp⟩ := hrun T hT X
  cases hv
  rw [h0] at hz hk
  obtain ⟨i1, i2⟩ := hcn v u' hp
  have hS1 : va_S A s.heap T'.heap (locs ++ L9) := ⟨Nat.le_trans hS.1 (by rw [e1]; exact hz), fun q h1 h2 => by
      rw [e1, hk q (Nat.lt_of_lt_of_le h1 hS.1) (fun z => h2 (hF q z))]
      exact hS.2.1 q h1 h2, fun q hq => by
      rcases List.mem_append.mp hq with h | h
      · exact hS.2.2 q h
      · exact hF _ (hL q h)⟩
  obtain ⟨t2, a1, b1⟩ := k v u' hp ls hl T'.heap (locs ++ L9) (by rw [e1]; exact hb1) (hb3.weaken (fun k q _ h => hF q.1 h)) hS1 T' rfl (by rw [i1, i2]; exact X')
  exact ⟨t2, stp t2 a1, b1⟩

theorem w_callS3 (h : Cx Wx l D κ ε own cc mL ret R post Γ) {y : MethodName} {cy : ByteArray} {mLy : Nat} {rety : Option FieldType} {fr lo mc ms index : Nat} {ps : Option Value → S → Prop} {x1 x2 x3 : Value} (hc : Ct Wx l D κ ε y cy mLy rety fr lo mc ms u [x1, x2, x3] ps) (hG : GoodIn Wall (va_wsS own index y (Cond.code y cy mLy rety :: Wall))) (hd : y.cls ≠ "java/lang/invoke/MethodHandle" ∧ y.cls ≠ "java/lang/invoke/VarHandle" ∧ (parseMethodDescriptor y.desc).map (fun d => d.parameters.length) = some 3) (hR : fr + 1 ≤ R.frames ∧ 8 + (mLy + 11) + lo ≤ R.locals) (hf : (Wx u).2.1 + mc ≤ R.cells ∧ (Wx u).2.2 + ms ≤ R.slots) (hcn : ∀ v u', ps v u' → (Wx u').2.1 = (Wx u).2.1 + mc ∧ (Wx u').2.2 = (Wx u).2.2 + ms) (hW8 : (st.map fun v => v.category).sum ≤ 8) (d : decode cc pc = .ok (.invokestatic index, 3)) (k : ∀ v u', ps v u' → WW Γ mL u' (pc + 3) L (v.toList ++ st)) : WW Γ mL u pc L (x3 :: x2 :: x1 :: st) := by
  obtain ⟨p, e, s, m, args, below, meth, c, A, Q, rfl, hx, hb, hml, hown, hts, hK, hE, hA, hfin⟩ := h
  intro ls hl H locs hP hD hS
  have hF : ∀ q, va_A (Wx u).1 H.size q → A q := fun q hq => by
    rcases hq with ⟨i, e9, hi⟩ | hq
    · exact hD.2 i (q, e9) hi
    · exact hA q (Nat.le_trans hS.1 hq)
  have hpre : ∀ U : State, U.heap = H → s.WarmedH U.vm → va_Pc ([x1, x2, x3]) (PreW D κ ε (Wx u).1 H.size) ([x1, x2, x3]).toArray U := fun U hU hW => ⟨rfl, by rw [hU], by rw [hU]; exact hP, va_K.moved hW.alike hK, hD.weaken (fun _ _ _ _ => trivial), by rw [hU]; exact (((hE.kept hS.2.1).narrow hF).warm hW)⟩
  have hrun : va_Run p l e R s m args below meth c H locs (Wx u).2.1 (Wx u).2.2 mc ms (F0 m pc ls (x3 :: x2 :: x1 :: st)) st (QW Wx D κ (va_A (Wx u).1 H.size) ps ([x1, x2, x3]).toArray) (va_A (Wx u).1 H.size) := va_runS (As := [x1, x2, x3]) ⟨hx, hb, hml, hown, hts⟩ (hc H.size) (va_cwS 3 hts hG rfl rfl rfl hd hR) ⟨preW_blind, hpre⟩ rfl rfl hl.1 rfl (lv_room hW8) d hf
  intro T hT X
  obtain ⟨v, st₀, t, T', L9, h0, X', hL, e1, e2, ⟨⟨v9, u', hv, hp, hb1, hb2, hb3⟩, hz, hk⟩, stp⟩ := hrun T hT X
  cases hv
  rw [h0] at hz hk
  obtain ⟨i1, i2⟩ := hcn v u' hp
  have hS1 : va_S A s.heap T'.heap (locs ++ L9) := ⟨Nat.le_trans hS.1 (by rw [e1]; exact hz), fun q h1 h2 => by
      rw [e1, hk q (Nat.lt_of_lt_of_le h1 hS.1) (fun z => h2 (hF q z))]
      exact hS.2.1 q h1 h2, fun q hq => by
      rcases List.mem_append.mp hq with h | h
      · exact hS.2.2 q h
      · exact hF _ (hL q h)⟩
  obtain ⟨t2, a1, b1⟩ := k v u' hp ls hl T'.heap (locs ++ L9) (by rw [e1]; exact hb1) (hb3.weaken (fun k q _ h => hF q.1 h)) hS1 T' rfl (by rw [i1, i2]; exact X')
  exact ⟨t2, stp t2 a1, b1⟩

theorem w_callSN1 (h : Cx Wx l D κ ε own cc mL ret R post Γ) {y : MethodName} {cy : ByteArray} {mLy : Nat} {rety : Option FieldType} {fr lo mc ms index : Nat} {ps : Option Value → S → Prop} {x1 : Value} (hc : Ct Wx l D κ ε y cy mLy rety fr lo mc ms u [x1] ps) {host : String} (hG : GoodIn Wall (Cond.code y cy mLy rety :: Wall)) (hN : ∀ U : State, Wn U → va_Nw (.methodLinkNest own index y host) U) (hini : Cond.initialized y.cls ∈ Wall) (hstat : Cond.static y ∈ Wall) (hd : y.cls ≠ "java/lang/invoke/MethodHandle" ∧ y.cls ≠ "java/lang/invoke/VarHandle" ∧ (parseMethodDescriptor y.desc).map (fun d => d.parameters.length) = some 1) (hR : fr + 1 ≤ R.frames ∧ 8 + (mLy + 11) + lo ≤ R.locals) (hf : (Wx u).2.1 + mc ≤ R.cells ∧ (Wx u).2.2 + ms ≤ R.slots) (hcn : ∀ v u', ps v u' → (Wx u').2.1 = (Wx u).2.1 + mc ∧ (Wx u').2.2 = (Wx u).2.2 + ms) (hW8 : (st.map fun v => v.category).sum ≤ 8) (d : decode cc pc = .ok (.invokestatic index, 3)) (k : ∀ v u', ps v u' → WW Γ mL u' (pc + 3) L (v.toList ++ st)) : WW Γ mL u pc L (x1 :: st) := by
  obtain ⟨p, e, s, m, args, below, meth, c, A, Q, rfl, hx, hb, hml, hown, hts, hK, hE, hA, hfin⟩ := h
  intro ls hl H locs hP hD hS
  have hF : ∀ q, va_A (Wx u).1 H.size q → A q := fun q hq => by
    rcases hq with ⟨i, e9, hi⟩ | hq
    · exact hD.2 i (q, e9) hi
    · exact hA q (Nat.le_trans hS.1 hq)
  have hpre : ∀ U : State, U.heap = H → s.WarmedH U.vm → va_Pc ([x1]) (PreW D κ ε (Wx u).1 H.size) ([x1]).toArray U := fun U hU hW => ⟨rfl, by rw [hU], by rw [hU]; exact hP, va_K.moved hW.alike hK, hD.weaken (fun _ _ _ _ => trivial), by rw [hU]; exact (((hE.kept hS.2.1).narrow hF).warm hW)⟩
  have hrun : va_Run p l e R s m args below meth c H locs (Wx u).2.1 (Wx u).2.2 mc ms (F0 m pc ls (x1 :: st)) st (QW Wx D κ (va_A (Wx u).1 H.size) ps ([x1]).toArray) (va_A (Wx u).1 H.size) := va_runSN (As := [x1]) ⟨hx, hb, hml, hown, hts⟩ (hc H.size) ⟨va_cnB 1 hts hG rfl rfl rfl (hN s hE.2.2) (hts _ hini) hd hR, hts _ hstat, trivial⟩ ⟨preW_blind, hpre⟩ rfl rfl hl.1 rfl (lv_room hW8) d hf
  intro T hT X
  obtain ⟨v, st₀, t, T', L9, h0, X', hL, e1, e2, ⟨⟨v9, u', hv, hp, hb1, hb2, hb3⟩, hz, hk⟩, stp⟩ := hrun T hT X
  cases hv
  rw [h0] at hz hk
  obtain ⟨i1, i2⟩ := hcn v u' hp
  have hS1 : va_S A s.heap T'.heap (locs ++ L9) := ⟨Nat.le_trans hS.1 (by rw [e1]; exact hz), fun q h1 h2 => by
      rw [e1, hk q (Nat.lt_of_lt_of_le h1 hS.1) (fun z => h2 (hF q z))]
      exact hS.2.1 q h1 h2, fun q hq => by
      rcases List.mem_append.mp hq with h | h
      · exact hS.2.2 q h
      · exact hF _ (hL q h)⟩
  obtain ⟨t2, a1, b1⟩ := k v u' hp ls hl T'.heap (locs ++ L9) (by rw [e1]; exact hb1) (hb3.weaken (fun k q _ h => hF q.1 h)) hS1 T' rfl (by rw [i1, i2]; exact X')
  exact ⟨t2, stp t2 a1, b1⟩

end ROWS
theorem gdV {own C : String} {index : Nat} {y : MethodName} {cw : Cond} (h1 : Cond.methodLink own index y ∈ Wall) (h2 : Cond.instanceMethod y ∈ Wall) (h3 : Cond.selects C y y ∈ Wall) (h4 : Cond.initialized C ∈ Wall) (h5 : cw ∈ Wall) : GoodIn Wall (wsV own index C y (cw :: Wall)) := by
  intro w hw
  have m : w ∈ Wall := by
    unfold wsV at hw
    simp only [List.cons_append, List.nil_append, List.mem_cons] at hw
    rcases hw with rfl | rfl | rfl | rfl | rfl | hw <;> assumption
  exact ⟨m, Wall_good w m⟩
theorem gdS {own : String} {index : Nat} {y : MethodName} {cw : Cond} (h1 : Cond.methodLink own index y ∈ Wall) (h2 : Cond.static y ∈ Wall) (h4 : Cond.initialized y.cls ∈ Wall) (h5 : cw ∈ Wall) : GoodIn Wall (va_wsS own index y (cw :: Wall)) := by
  intro w hw
  have m : w ∈ Wall := by
    unfold va_wsS at hw
    simp only [List.cons_append, List.nil_append, List.mem_cons] at hw
    rcases hw with rfl | rfl | rfl | rfl | hw <;> assumption
  exact ⟨m, Wall_good w m⟩
theorem gdN {cw : Cond} (h5 : cw ∈ Wall) : GoodIn Wall (cw :: Wall) := by
  intro w hw
  have m : w ∈ Wall := by
    rcases List.mem_cons.mp hw with rfl | hw <;> assumption
  exact ⟨m, Wall_good w m⟩
/-- a contract out of its walk -/
theorem Ct.of {S : Type} {Wx : S → va_W × Nat × Nat} {l : Launch} {D : va_G} {κ : Nat → Nat} {ε : Nat} {y : MethodName} {own : String} {cc : ByteArray} {mL : Nat} {ret : Option FieldType} {fr lo mc ms : Nat} {u : S} {av : List Value} {post : Option Value → S → Prop} (hown9 : y.cls = own) (hy : plainName y.cls = true) (hav : (lg_sl av).length ≤ mL) (hu0 : (Wx u).2 = (0, 0))
    (body : ∀ Γ, Cx Wx l D κ ε own cc mL ret { frames := fr, cells := mc, slots := ms, locals := lo } post Γ → WW Γ mL u 0 (lv_args 0 av) []) : Ct Wx l D κ ε y cc mL ret fr lo mc ms u av post := by
  subst hown9
  intro sz
  refine Met.ofW (cc := cc) (maxL := mL) (ret := ret) hy rfl ?_
  intro p e s m args below meth c s₁ B hml hv
  obtain ⟨rfl, hsz, hP, hK, hD0, hE⟩ := hv
  have hx := B.exec
  have hb := B.bytes
  have hr := B.returns
  have hts0 := atoms_spec (ws := Cond.code y cc mL ret :: Wall) B.pre
  have hts : ∀ w ∈ Wall, w.before _ s = true := fun w h => hts0 w (List.mem_cons_of_mem _ h)
  have hown : s.vm.findClass y.cls = some m.cls := findClass_of_methodNamed B.named
  have hlocks := B.notSynchronized
  subst hsz
  have hD := hD0.self (sz := s.heap.size)
  have hS : va_S (va_A (Wx u).1 s.heap.size) s.heap s.heap [] := va_S.rf
  have hl := lv_entry av (n := mL) hav
  rw [lg_entry_eq]
  have hfin : ∀ (u9 : S) (pc : Nat) (ls : Array Slot) (v : Option Value) (H : Heap) (locs : List Loc), retOk cc pc ret v → post v u9 → (Wx u9).2.1 ≤ mc → (Wx u9).2.2 ≤ ms → va_P D vwCl (Wx u9).1 H → va_D (va_A (Wx u).1 s.heap.size) (Wx u9).1 → va_S (va_A (Wx u).1 s.heap.size) s.heap H locs → W p l e { frames := fr, cells := mc, slots := ms, locals := lo } s m av.toArray below meth c H locs (Wx u9).2.1 (Wx u9).2.2 (MQ below (QW Wx D κ (va_A (Wx u).1 s.heap.size) post) av.toArray s mc ms (va_A (Wx u).1 s.heap.size)) (F0 m pc ls v.toList) := by
    intro u9 pc ls v H locs hret hp h1 h2 hP hD hS
    refine W.widen h1 h2 ?_
    have hq : ∀ t : State, t.heap = H → s.WarmedH t.vm → QW Wx D κ (va_A (Wx u).1 s.heap.size) post av.toArray s (.returned v) t := fun t ht hW => ⟨⟨v, u9, rfl, hp, by rw [ht]; exact hP, va_K.moved hW.alike hK, hD⟩, hS.F ht⟩
    rcases hret with ⟨rfl, hn, hdg⟩ | ⟨x, ty, rfl, hn, hnar, hdg⟩ | ⟨x, rfl, hn, hdg⟩ | ⟨x, rfl, hn, hdg⟩ | ⟨x, rt, rfl, hn, hrt, hdg⟩
    · exact W.vret hx hb (hr.trans hn) hq hS.2.2 hdg
    · exact W.zret hx hb (hr.trans hn) hnar hq hS.2.2 hdg
    · exact W.lret hx hb (hr.trans hn) hq hS.2.2 hdg
    · exact W.dret hx hb (hr.trans hn) hq hS.2.2 hdg
    · exact W.aret hx hb (hr.trans hn) hrt (Or.inr ⟨x, rfl⟩) hq hS.2.2 hdg
  have h := body _ ⟨p, e, s, m, av.toArray, below, meth, c, va_A (Wx u).1 s.heap.size, _, rfl, hx, hb, hml, hown, hts, hK, hE, fun q hq => Or.inr hq, hfin⟩ _ hl s.heap [] hP hD hS
  rw [hu0] at h
  exact h
end
section
/-! THE CLASS'S CELLS AS A STATE: numbers (0 length, 1 luck, 2 draws, 3 ended, 4 words, 5 order, 6 way, 7 number, 8 sum, 9 kinds, 10 least, 20 leastBehind, 11 the script's size, 12 + i the tallies' sizes) and arrays, by place -/
abbrev US : Type := (Nat → Int) × (Nat → Nat → Int)
def iA (f : Nat → Int) : Nat → Int32 := fun j => iI (f j)
/-- which of the two rows a field of Search holds -/
def lb (z : Int) : Nat := if z = 0 then 13 else 14

def WS (κ a : Nat → Nat) (u : US) : va_W := [
  (a 0, .inr (5, [.ref (a 1), .ref (a 2), .ref (a 3), .ref (a 4), .ref (a 5), .ref (a 6), .int (iI (u.1 0)), .int (iI (u.1 1)), .int (iI (u.1 2)), .int (iI (u.1 3))])),
  (a 1, .inr (0, [.int (iI (u.1 4)), .int (iI (u.1 5)), .ref (a 7), .ref (a 8)])),
  (a 2, .inr (1, [.ref (a 1), .int (iI (u.1 6)), .int (iI (u.1 7)), .ref (a 9), .ref (a 10), .long (lI (u.1 8)), .int (iI (u.1 9))])),
  (a 3, .inr (3, [.ref (a 1), .ref (a 2), .ref (a 11), .ref (a 12), .ref (a (lb (u.1 10))), .ref (a (lb (u.1 20)))])),
  (a 4, .inr (2, [.ref (a 15), .ref (a 16), .ref (a 17), .int (iI (u.1 11))])),
  (a 5, .inl (κ 1, 852, .inl (iA (u.2 5)))),
  (a 6, .inl (κ 0, 12, .inl (iA (u.2 6)))),
  (a 7, .inl (κ 2, 4, .inr (.inr (.inr (.inr (fun j => some (a (30 + 3 * j)))))))),
  (a 8, .inl (κ 2, 4, .inr (.inr (.inr (.inr (fun j => some (a (42 + 3 * j)))))))),
  (a 9, .inl (κ 0, 13, .inl (iA (u.2 9)))),
  (a 10, .inl (κ 0, 13, .inl (iA (u.2 10)))),
  (a 11, .inl (κ 0, 22464, .inl (iA (u.2 11)))),
  (a 12, .inl (κ 3, 12, .inr (.inr (.inr (.inr (fun j => some (a (18 + j)))))))),
  (a 13, .inl (κ 0, 1728, .inl (iA (u.2 13)))),
  (a 14, .inl (κ 0, 1728, .inl (iA (u.2 14)))),
  (a 15, .inl (κ 0, 12, .inl (iA (u.2 15)))),
  (a 16, .inl (κ 0, 12, .inl (iA (u.2 16)))),
  (a 17, .inl (κ 0, 12, .inl (iA (u.2 17)))),
  (a 18, .inl (κ 0, 1728, .inl (iA (u.2 18)))),
  (a 19, .inl (κ 0, 1728, .inl (iA (u.2 19)))),
  (a 20, .inl (κ 0, 1728, .inl (iA (u.2 20)))),
  (a 21, .inl (κ 0, 1728, .inl (iA (u.2 21)))),
  (a 22, .inl (κ 0, 1728, .inl (iA (u.2 22)))),
  (a 23, .inl (κ 0, 1728, .inl (iA (u.2 23)))),
  (a 24, .inl (κ 0, 1728, .inl (iA (u.2 24)))),
  (a 25, .inl (κ 0, 1728, .inl (iA (u.2 25)))),
  (a 26, .inl (κ 0, 1728, .inl (iA (u.2 26)))),
  (a 27, .inl (κ 0, 1728, .inl (iA (u.2 27)))),
  (a 28, .inl (κ 0, 1728, .inl (iA (u.2 28)))),
  (a 29, .inl (κ 0, 1728, .inl (iA (u.2 29)))),
  (a 30, .inr (4, [.ref (a 31), .ref (a 32), .int (iI (u.1 12))])),
  (a 31, .inl (κ 0, 852, .inl (iA (u.2 31)))),
  (a 32, .inl (κ 0, 852, .inl (iA (u.2 32)))),
  (a 33, .inr (4, [.ref (a 34), .ref (a 35), .int (iI (u.1 13))])),
  (a 34, .inl (κ 0, 852, .inl (iA (u.2 34)))),
  (a 35, .inl (κ 0, 852, .inl (iA (u.2 35)))),
  (a 36, .inr (4, [.ref (a 37), .ref (a 38), .int (iI (u.1 14))])),
  (a 37, .inl (κ 0, 852, .inl (iA (u.2 37)))),
  (a 38, .inl (κ 0, 852, .inl (iA (u.2 38)))),
  (a 39, .inr (4, [.ref (a 40), .ref (a 41), .int (iI (u.1 15))])),
  (a 40, .inl (κ 0, 852, .inl (iA (u.2 40)))),
  (a 41, .inl (κ 0, 852, .inl (iA (u.2 41)))),
  (a 42, .inr (4, [.ref (a 43), .ref (a 44), .int (iI (u.1 16))])),
  (a 43, .inl (κ 0, 852, .inl (iA (u.2 43)))),
  (a 44, .inl (κ 0, 852, .inl (iA (u.2 44)))),
  (a 45, .inr (4, [.ref (a 46), .ref (a 47), .int (iI (u.1 17))])),
  (a 46, .inl (κ 0, 852, .inl (iA (u.2 46)))),
  (a 47, .inl (κ 0, 852, .inl (iA (u.2 47)))),
  (a 48, .inr (4, [.ref (a 49), .ref (a 50), .int (iI (u.1 18))])),
  (a 49, .inl (κ 0, 852, .inl (iA (u.2 49)))),
  (a 50, .inl (κ 0, 852, .inl (iA (u.2 50)))),
  (a 51, .inr (4, [.ref (a 52), .ref (a 53), .int (iI (u.1 19))])),
  (a 52, .inl (κ 0, 852, .inl (iA (u.2 52)))),
  (a 53, .inl (κ 0, 852, .inl (iA (u.2 53))))]

def W0 (κ a : Nat → Nat) : US → va_W × Nat × Nat := fun u => (WS κ a u, 0, 0)
def uS (u : US) (k : Nat) (v : Int) : US := (fun j => if j = k then v else u.1 j, u.2)
def upI (f : Nat → Int) (i : Nat) (v : Int) : Nat → Int := fun j => if j = i then v else f j
def cpI (f : Nat → Int) (sp dp n : Nat) : Nat → Int := fun j => if dp ≤ j ∧ j < dp + n then f (sp + (j - dp)) else f j
/-- the array at the place k is g -/
def uA (u : US) (k : Nat) (g : Nat → Int) : US := (u.1, fun k' => if k' = k then g else u.2 k')
theorem upd_iA (f : Nat → Int) (i : Nat) (v : Int) : upd (iA f) i (iI v) = iA (upI f i v) := by
  funext j
  unfold upd iA upI
  split <;> rfl
theorem cpy_iA (f : Nat → Int) (sp dp n : Nat) : va_cpy (iA f) (iA f) sp dp n = iA (cpI f sp dp n) := by
  funext j
  unfold va_cpy iA cpI
  split <;> rfl
theorem uS_at (u : US) (k : Nat) (v : Int) : (uS u k v).1 k = v := if_pos rfl
theorem uS_ne (u : US) {k j : Nat} (v : Int) (h : j ≠ k) : (uS u k v).1 j = u.1 j := if_neg h
theorem uA_at (u : US) (k : Nat) (g : Nat → Int) : (uA u k g).2 k = g := if_pos rfl
theorem uA_ne (u : US) {k j : Nat} (g : Nat → Int) (h : j ≠ k) : (uA u k g).2 j = u.2 j := if_neg h
/-- all but the listed numbers and arrays is as it was -/
def Fr (ls gs : List Nat) (u u' : US) : Prop := (∀ k, k ∉ ls → u'.1 k = u.1 k) ∧ (∀ k, k ∉ gs → u'.2 k = u.2 k)
theorem Fr.rfl {ls gs : List Nat} {u : US} : Fr ls gs u u := ⟨fun _ _ => Eq.refl _, fun _ _ => Eq.refl _⟩
theorem Fr.tr {ls gs : List Nat} {u v w : US} (h1 : Fr ls gs u v) (h2 : Fr ls gs v w) : Fr ls gs u w := ⟨fun k h => (h2.1 k h).trans (h1.1 k h), fun k h => (h2.2 k h).trans (h1.2 k h)⟩
theorem Fr.mono {ls gs ls' gs' : List Nat} {u v : US} (h : Fr ls gs u v) (h1 : ∀ k, k ∉ ls' → k ∉ ls) (h2 : ∀ k, k ∉ gs' → k ∉ gs) : Fr ls' gs' u v := ⟨fun k hk => h.1 k (h1 k hk), fun k hk => h.2 k (h2 k hk)⟩
theorem Fr.S {ls gs : List Nat} {u : US} {k : Nat} {v : Int} (h : k ∈ ls) : Fr ls gs u (uS u k v) := ⟨fun j hj => uS_ne u v (fun e => hj (e ▸ h)), fun _ _ => Eq.refl _⟩
theorem Fr.A {ls gs : List Nat} {u : US} {k : Nat} {g : Nat → Int} (h : k ∈ gs) : Fr ls gs u (uA u k g) := ⟨fun _ _ => Eq.refl _, fun j hj => uA_ne u g (fun e => hj (e ▸ h))⟩
section WROWS
variable {l : Launch} {D : va_G} {κ a : Nat → Nat} {ε : Nat} {own : String} {cc : ByteArray} {mL : Nat} {ret : Option FieldType} {R : Room} {post : Option Value → US → Prop} {Γ : US → Nat → Array Slot → List Value → Prop} {u : US} {pc : Nat} {L : List (Nat × Value)} {st : List Value}

theorem g0_length (h : Cx (W0 κ a) l D κ ε own cc mL ret R post Γ) {ix : Nat} {z : Int} (hz : u.1 0 = z) (hl : Cond.fieldLink own ix "Canticle" "length" "I" ∈ Wall) (d : decode cc pc = .ok (.getfield ix, 3)) (k : WW Γ mL u (pc + 3) L (.int (iI z) :: st)) : WW Γ mL u pc L (.ref (a 0) :: st) := by
  subst hz
  exact w_get h wi_X5 0 rfl rfl 6 (by decide) hl rfl rfl d k

theorem p0_length (h : Cx (W0 κ a) l D κ ε own cc mL ret R post Γ) {ix : Nat} {z : Int} (hl : Cond.fieldLink own ix "Canticle" "length" "I" ∈ Wall) (d : decode cc pc = .ok (.putfield ix, 3)) (k : WW Γ mL (uS u 0 z) (pc + 3) L st) : WW Γ mL u pc L (.int (iI z) :: .ref (a 0) :: st) := w_put h wi_X5 tyX5 tyX5_ok nmX5 0 rfl rfl 6 (by decide) hl rfl rfl (ty := .int) (by decide +kernel) rfl rfl (Nat.le_of_ble_eq_true rfl) d (uS u 0 z) rfl rfl k

theorem g0_luck (h : Cx (W0 κ a) l D κ ε own cc mL ret R post Γ) {ix : Nat} {z : Int} (hz : u.1 1 = z) (hl : Cond.fieldLink own ix "Canticle" "luck" "I" ∈ Wall) (d : decode cc pc = .ok (.getfield ix, 3)) (k : WW Γ mL u (pc + 3) L (.int (iI z) :: st)) : WW Γ mL u pc L (.ref (a 0) :: st) := by
  subst hz
  exact w_get h wi_X5 0 rfl rfl 7 (by decide) hl rfl rfl d k

theorem p0_luck (h : Cx (W0 κ a) l D κ ε own cc mL ret R post Γ) {ix : Nat} {z : Int} (hl : Cond.fieldLink own ix "Canticle" "luck" "I" ∈ Wall) (d : decode cc pc = .ok (.putfield ix, 3)) (k : WW Γ mL (uS u 1 z) (pc + 3) L st) : WW Γ mL u pc L (.int (iI z) :: .ref (a 0) :: st) := w_put h wi_X5 tyX5 tyX5_ok nmX5 0 rfl rfl 7 (by decide) hl rfl rfl (ty := .int) (by decide +kernel) rfl rfl (Nat.le_of_ble_eq_true rfl) d (uS u 1 z) rfl rfl k

theorem g0_draws (h : Cx (W0 κ a) l D κ ε own cc mL ret R post Γ) {ix : Nat} {z : Int} (hz : u.1 2 = z) (hl : Cond.fieldLink own ix "Canticle" "draws" "I" ∈ Wall) (d : decode cc pc = .ok (.getfield ix, 3)) (k : WW Γ mL u (pc + 3) L (.int (iI z) :: st)) : WW Γ mL u pc L (.ref (a 0) :: st) := by
  subst hz
  exact w_get h wi_X5 0 rfl rfl 8 (by decide) hl rfl rfl d k

theorem p0_draws (h : Cx (W0 κ a) l D κ ε own cc mL ret R post Γ) {ix : Nat} {z : Int} (hl : Cond.fieldLink own ix "Canticle" "draws" "I" ∈ Wall) (d : decode cc pc = .ok (.putfield ix, 3)) (k : WW Γ mL (uS u 2 z) (pc + 3) L st) : WW Γ mL u pc L (.int (iI z) :: .ref (a 0) :: st) := w_put h wi_X5 tyX5 tyX5_ok nmX5 0 rfl rfl 8 (by decide) hl rfl rfl (ty := .int) (by decide +kernel) rfl rfl (Nat.le_of_ble_eq_true rfl) d (uS u 2 z) rfl rfl k

theorem g0_ended (h : Cx (W0 κ a) l D κ ε own cc mL ret R post Γ) {ix : Nat} {z : Int} (hz : u.1 3 = z) (hl : Cond.fieldLink own ix "Canticle" "ended" "Z" ∈ Wall) (d : decode cc pc = .ok (.getfield ix, 3)) (k : WW Γ mL u (pc + 3) L (.int (iI z) :: st)) : WW Γ mL u pc L (.ref (a 0) :: st) := by
  subst hz
  exact w_get h wi_X5 0 rfl rfl 9 (by decide) hl rfl rfl d k

theorem p0_ended (h : Cx (W0 κ a) l D κ ε own cc mL ret R post Γ) {ix : Nat} {z : Int} (h01 : z = 0 ∨ z = 1) (hl : Cond.fieldLink own ix "Canticle" "ended" "Z" ∈ Wall) (d : decode cc pc = .ok (.putfield ix, 3)) (k : WW Γ mL (uS u 3 z) (pc + 3) L st) : WW Γ mL u pc L (.int (iI z) :: .ref (a 0) :: st) := w_put h wi_X5 tyX5 tyX5_ok nmX5 0 rfl rfl 9 (by decide) hl rfl rfl (ty := .boolean) (by decide +kernel) (by rcases h01 with rfl | rfl <;> rfl) (by rcases h01 with rfl | rfl <;> rfl) (Nat.le_of_ble_eq_true rfl) d (uS u 3 z) rfl rfl k

theorem g1_words (h : Cx (W0 κ a) l D κ ε own cc mL ret R post Γ) {ix : Nat} {z : Int} (hz : u.1 4 = z) (hl : Cond.fieldLink own ix "Canticle$Ledger" "words" "I" ∈ Wall) (d : decode cc pc = .ok (.getfield ix, 3)) (k : WW Γ mL u (pc + 3) L (.int (iI z) :: st)) : WW Γ mL u pc L (.ref (a 1) :: st) := by
  subst hz
  exact w_get h wi_X0 1 rfl rfl 0 (by decide) hl rfl rfl d k

theorem p1_words (h : Cx (W0 κ a) l D κ ε own cc mL ret R post Γ) {ix : Nat} {z : Int} (hl : Cond.fieldLink own ix "Canticle$Ledger" "words" "I" ∈ Wall) (d : decode cc pc = .ok (.putfield ix, 3)) (k : WW Γ mL (uS u 4 z) (pc + 3) L st) : WW Γ mL u pc L (.int (iI z) :: .ref (a 1) :: st) := w_put h wi_X0 tyX0 tyX0_ok nmX0 1 rfl rfl 0 (by decide) hl rfl rfl (ty := .int) (by decide +kernel) rfl rfl (Nat.le_of_ble_eq_true rfl) d (uS u 4 z) rfl rfl k

theorem g1_order (h : Cx (W0 κ a) l D κ ε own cc mL ret R post Γ) {ix : Nat} {z : Int} (hz : u.1 5 = z) (hl : Cond.fieldLink own ix "Canticle$Ledger" "order" "I" ∈ Wall) (d : decode cc pc = .ok (.getfield ix, 3)) (k : WW Γ mL u (pc + 3) L (.int (iI z) :: st)) : WW Γ mL u pc L (.ref (a 1) :: st) := by
  subst hz
  exact w_get h wi_X0 1 rfl rfl 1 (by decide) hl rfl rfl d k

theorem p1_order (h : Cx (W0 κ a) l D κ ε own cc mL ret R post Γ) {ix : Nat} {z : Int} (hl : Cond.fieldLink own ix "Canticle$Ledger" "order" "I" ∈ Wall) (d : decode cc pc = .ok (.putfield ix, 3)) (k : WW Γ mL (uS u 5 z) (pc + 3) L st) : WW Γ mL u pc L (.int (iI z) :: .ref (a 1) :: st) := w_put h wi_X0 tyX0 tyX0_ok nmX0 1 rfl rfl 1 (by decide) hl rfl rfl (ty := .int) (by decide +kernel) rfl rfl (Nat.le_of_ble_eq_true rfl) d (uS u 5 z) rfl rfl k

theorem g2_way (h : Cx (W0 κ a) l D κ ε own cc mL ret R post Γ) {ix : Nat} {z : Int} (hz : u.1 6 = z) (hl : Cond.fieldLink own ix "Canticle$Reckoner" "way" "I" ∈ Wall) (d : decode cc pc = .ok (.getfield ix, 3)) (k : WW Γ mL u (pc + 3) L (.int (iI z) :: st)) : WW Γ mL u pc L (.ref (a 2) :: st) := by
  subst hz
  exact w_get h wi_X1 2 rfl rfl 1 (by decide) hl rfl rfl d k

theorem p2_way (h : Cx (W0 κ a) l D κ ε own cc mL ret R post Γ) {ix : Nat} {z : Int} (hl : Cond.fieldLink own ix "Canticle$Reckoner" "way" "I" ∈ Wall) (d : decode cc pc = .ok (.putfield ix, 3)) (k : WW Γ mL (uS u 6 z) (pc + 3) L st) : WW Γ mL u pc L (.int (iI z) :: .ref (a 2) :: st) := w_put h wi_X1 tyX1 tyX1_ok nmX1 2 rfl rfl 1 (by decide) hl rfl rfl (ty := .int) (by decide +kernel) rfl rfl (Nat.le_of_ble_eq_true rfl) d (uS u 6 z) rfl rfl k

theorem g2_number (h : Cx (W0 κ a) l D κ ε own cc mL ret R post Γ) {ix : Nat} {z : Int} (hz : u.1 7 = z) (hl : Cond.fieldLink own ix "Canticle$Reckoner" "number" "I" ∈ Wall) (d : decode cc pc = .ok (.getfield ix, 3)) (k : WW Γ mL u (pc + 3) L (.int (iI z) :: st)) : WW Γ mL u pc L (.ref (a 2) :: st) := by
  subst hz
  exact w_get h wi_X1 2 rfl rfl 2 (by decide) hl rfl rfl d k

theorem p2_number (h : Cx (W0 κ a) l D κ ε own cc mL ret R post Γ) {ix : Nat} {z : Int} (hl : Cond.fieldLink own ix "Canticle$Reckoner" "number" "I" ∈ Wall) (d : decode cc pc = .ok (.putfield ix, 3)) (k : WW Γ mL (uS u 7 z) (pc + 3) L st) : WW Γ mL u pc L (.int (iI z) :: .ref (a 2) :: st) := w_put h wi_X1 tyX1 tyX1_ok nmX1 2 rfl rfl 2 (by decide) hl rfl rfl (ty := .int) (by decide +kernel) rfl rfl (Nat.le_of_ble_eq_true rfl) d (uS u 7 z) rfl rfl k

theorem g2_sum (h : Cx (W0 κ a) l D κ ε own cc mL ret R post Γ) {ix : Nat} {z : Int} (hz : u.1 8 = z) (hl : Cond.fieldLink own ix "Canticle$Reckoner" "sum" "J" ∈ Wall) (d : decode cc pc = .ok (.getfield ix, 3)) (k : WW Γ mL u (pc + 3) L (.long (lI z) :: st)) : WW Γ mL u pc L (.ref (a 2) :: st) := by
  subst hz
  exact w_get h wi_X1 2 rfl rfl 5 (by decide) hl rfl rfl d k

theorem p2_sum (h : Cx (W0 κ a) l D κ ε own cc mL ret R post Γ) {ix : Nat} {z : Int} (hl : Cond.fieldLink own ix "Canticle$Reckoner" "sum" "J" ∈ Wall) (d : decode cc pc = .ok (.putfield ix, 3)) (k : WW Γ mL (uS u 8 z) (pc + 3) L st) : WW Γ mL u pc L (.long (lI z) :: .ref (a 2) :: st) := w_put h wi_X1 tyX1 tyX1_ok nmX1 2 rfl rfl 5 (by decide) hl rfl rfl (ty := .long) (by decide +kernel) rfl rfl (Nat.le_of_ble_eq_true rfl) d (uS u 8 z) rfl rfl k

theorem g2_kinds (h : Cx (W0 κ a) l D κ ε own cc mL ret R post Γ) {ix : Nat} {z : Int} (hz : u.1 9 = z) (hl : Cond.fieldLink own ix "Canticle$Reckoner" "kinds" "I" ∈ Wall) (d : decode cc pc = .ok (.getfield ix, 3)) (k : WW Γ mL u (pc + 3) L (.int (iI z) :: st)) : WW Γ mL u pc L (.ref (a 2) :: st) := by
  subst hz
  exact w_get h wi_X1 2 rfl rfl 6 (by decide) hl rfl rfl d k

theorem p2_kinds (h : Cx (W0 κ a) l D κ ε own cc mL ret R post Γ) {ix : Nat} {z : Int} (hl : Cond.fieldLink own ix "Canticle$Reckoner" "kinds" "I" ∈ Wall) (d : decode cc pc = .ok (.putfield ix, 3)) (k : WW Γ mL (uS u 9 z) (pc + 3) L st) : WW Γ mL u pc L (.int (iI z) :: .ref (a 2) :: st) := w_put h wi_X1 tyX1 tyX1_ok nmX1 2 rfl rfl 6 (by decide) hl rfl rfl (ty := .int) (by decide +kernel) rfl rfl (Nat.le_of_ble_eq_true rfl) d (uS u 9 z) rfl rfl k

theorem g4_size (h : Cx (W0 κ a) l D κ ε own cc mL ret R post Γ) {ix : Nat} {z : Int} (hz : u.1 11 = z) (hl : Cond.fieldLink own ix "Canticle$Script" "size" "I" ∈ Wall) (d : decode cc pc = .ok (.getfield ix, 3)) (k : WW Γ mL u (pc + 3) L (.int (iI z) :: st)) : WW Γ mL u pc L (.ref (a 4) :: st) := by
  subst hz
  exact w_get h wi_X2 4 rfl rfl 3 (by decide) hl rfl rfl d k

theorem p4_size (h : Cx (W0 κ a) l D κ ε own cc mL ret R post Γ) {ix : Nat} {z : Int} (hl : Cond.fieldLink own ix "Canticle$Script" "size" "I" ∈ Wall) (d : decode cc pc = .ok (.putfield ix, 3)) (k : WW Γ mL (uS u 11 z) (pc + 3) L st) : WW Γ mL u pc L (.int (iI z) :: .ref (a 4) :: st) := w_put h wi_X2 tyX2 tyX2_ok nmX2 4 rfl rfl 3 (by decide) hl rfl rfl (ty := .int) (by decide +kernel) rfl rfl (Nat.le_of_ble_eq_true rfl) d (uS u 11 z) rfl rfl k

theorem g0_ledger (h : Cx (W0 κ a) l D κ ε own cc mL ret R post Γ) {ix : Nat} (hl : Cond.fieldLink own ix "Canticle" "ledger" "LCanticle$Ledger;" ∈ Wall) (d : decode cc pc = .ok (.getfield ix, 3)) (k : WW Γ mL u (pc + 3) L (.ref (a 1) :: st)) : WW Γ mL u pc L (.ref (a 0) :: st) := w_get h wi_X5 0 rfl rfl 0 (by decide) hl rfl rfl d k

theorem g0_reckoner (h : Cx (W0 κ a) l D κ ε own cc mL ret R post Γ) {ix : Nat} (hl : Cond.fieldLink own ix "Canticle" "reckoner" "LCanticle$Reckoner;" ∈ Wall) (d : decode cc pc = .ok (.getfield ix, 3)) (k : WW Γ mL u (pc + 3) L (.ref (a 2) :: st)) : WW Γ mL u pc L (.ref (a 0) :: st) := w_get h wi_X5 0 rfl rfl 1 (by decide) hl rfl rfl d k

theorem g0_search (h : Cx (W0 κ a) l D κ ε own cc mL ret R post Γ) {ix : Nat} (hl : Cond.fieldLink own ix "Canticle" "search" "LCanticle$Search;" ∈ Wall) (d : decode cc pc = .ok (.getfield ix, 3)) (k : WW Γ mL u (pc + 3) L (.ref (a 3) :: st)) : WW Γ mL u pc L (.ref (a 0) :: st) := w_get h wi_X5 0 rfl rfl 2 (by decide) hl rfl rfl d k

theorem g0_script (h : Cx (W0 κ a) l D κ ε own cc mL ret R post Γ) {ix : Nat} (hl : Cond.fieldLink own ix "Canticle" "script" "LCanticle$Script;" ∈ Wall) (d : decode cc pc = .ok (.getfield ix, 3)) (k : WW Γ mL u (pc + 3) L (.ref (a 4) :: st)) : WW Γ mL u pc L (.ref (a 0) :: st) := w_get h wi_X5 0 rfl rfl 3 (by decide) hl rfl rfl d k

theorem g0_doomed (h : Cx (W0 κ a) l D κ ε own cc mL ret R post Γ) {ix : Nat} (hl : Cond.fieldLink own ix "Canticle" "doomed" "[Z" ∈ Wall) (d : decode cc pc = .ok (.getfield ix, 3)) (k : WW Γ mL u (pc + 3) L (.ref (a 5) :: st)) : WW Γ mL u pc L (.ref (a 0) :: st) := w_get h wi_X5 0 rfl rfl 4 (by decide) hl rfl rfl d k

theorem g0_sentence (h : Cx (W0 κ a) l D κ ε own cc mL ret R post Γ) {ix : Nat} (hl : Cond.fieldLink own ix "Canticle" "sentence" "[I" ∈ Wall) (d : decode cc pc = .ok (.getfield ix, 3)) (k : WW Γ mL u (pc + 3) L (.ref (a 6) :: st)) : WW Γ mL u pc L (.ref (a 0) :: st) := w_get h wi_X5 0 rfl rfl 5 (by decide) hl rfl rfl d k

theorem g1_counted (h : Cx (W0 κ a) l D κ ε own cc mL ret R post Γ) {ix : Nat} (hl : Cond.fieldLink own ix "Canticle$Ledger" "counted" "[LCanticle$Tally;" ∈ Wall) (d : decode cc pc = .ok (.getfield ix, 3)) (k : WW Γ mL u (pc + 3) L (.ref (a 7) :: st)) : WW Γ mL u pc L (.ref (a 1) :: st) := w_get h wi_X0 1 rfl rfl 2 (by decide) hl rfl rfl d k

theorem g1_varied (h : Cx (W0 κ a) l D κ ε own cc mL ret R post Γ) {ix : Nat} (hl : Cond.fieldLink own ix "Canticle$Ledger" "varied" "[LCanticle$Tally;" ∈ Wall) (d : decode cc pc = .ok (.getfield ix, 3)) (k : WW Γ mL u (pc + 3) L (.ref (a 8) :: st)) : WW Γ mL u pc L (.ref (a 1) :: st) := w_get h wi_X0 1 rfl rfl 3 (by decide) hl rfl rfl d k

theorem g2_ledger (h : Cx (W0 κ a) l D κ ε own cc mL ret R post Γ) {ix : Nat} (hl : Cond.fieldLink own ix "Canticle$Reckoner" "ledger" "LCanticle$Ledger;" ∈ Wall) (d : decode cc pc = .ok (.getfield ix, 3)) (k : WW Γ mL u (pc + 3) L (.ref (a 1) :: st)) : WW Γ mL u pc L (.ref (a 2) :: st) := w_get h wi_X1 2 rfl rfl 0 (by decide) hl rfl rfl d k

theorem g2_chances (h : Cx (W0 κ a) l D κ ε own cc mL ret R post Γ) {ix : Nat} (hl : Cond.fieldLink own ix "Canticle$Reckoner" "chances" "[I" ∈ Wall) (d : decode cc pc = .ok (.getfield ix, 3)) (k : WW Γ mL u (pc + 3) L (.ref (a 9) :: st)) : WW Γ mL u pc L (.ref (a 2) :: st) := w_get h wi_X1 2 rfl rfl 3 (by decide) hl rfl rfl d k

theorem g2_own (h : Cx (W0 κ a) l D κ ε own cc mL ret R post Γ) {ix : Nat} (hl : Cond.fieldLink own ix "Canticle$Reckoner" "own" "[I" ∈ Wall) (d : decode cc pc = .ok (.getfield ix, 3)) (k : WW Γ mL u (pc + 3) L (.ref (a 10) :: st)) : WW Γ mL u pc L (.ref (a 2) :: st) := w_get h wi_X1 2 rfl rfl 4 (by decide) hl rfl rfl d k

theorem g3_ledger (h : Cx (W0 κ a) l D κ ε own cc mL ret R post Γ) {ix : Nat} (hl : Cond.fieldLink own ix "Canticle$Search" "ledger" "LCanticle$Ledger;" ∈ Wall) (d : decode cc pc = .ok (.getfield ix, 3)) (k : WW Γ mL u (pc + 3) L (.ref (a 1) :: st)) : WW Γ mL u pc L (.ref (a 3) :: st) := w_get h wi_X3 3 rfl rfl 0 (by decide) hl rfl rfl d k

theorem g3_reckoner (h : Cx (W0 κ a) l D κ ε own cc mL ret R post Γ) {ix : Nat} (hl : Cond.fieldLink own ix "Canticle$Search" "reckoner" "LCanticle$Reckoner;" ∈ Wall) (d : decode cc pc = .ok (.getfield ix, 3)) (k : WW Γ mL u (pc + 3) L (.ref (a 2) :: st)) : WW Γ mL u pc L (.ref (a 3) :: st) := w_get h wi_X3 3 rfl rfl 1 (by decide) hl rfl rfl d k

theorem g3_costs (h : Cx (W0 κ a) l D κ ε own cc mL ret R post Γ) {ix : Nat} (hl : Cond.fieldLink own ix "Canticle$Search" "costs" "[I" ∈ Wall) (d : decode cc pc = .ok (.getfield ix, 3)) (k : WW Γ mL u (pc + 3) L (.ref (a 11) :: st)) : WW Γ mL u pc L (.ref (a 3) :: st) := w_get h wi_X3 3 rfl rfl 2 (by decide) hl rfl rfl d k

theorem g3_choices (h : Cx (W0 κ a) l D κ ε own cc mL ret R post Γ) {ix : Nat} (hl : Cond.fieldLink own ix "Canticle$Search" "choices" "[[I" ∈ Wall) (d : decode cc pc = .ok (.getfield ix, 3)) (k : WW Γ mL u (pc + 3) L (.ref (a 12) :: st)) : WW Γ mL u pc L (.ref (a 3) :: st) := w_get h wi_X3 3 rfl rfl 3 (by decide) hl rfl rfl d k

theorem g4_codes (h : Cx (W0 κ a) l D κ ε own cc mL ret R post Γ) {ix : Nat} (hl : Cond.fieldLink own ix "Canticle$Script" "codes" "[I" ∈ Wall) (d : decode cc pc = .ok (.getfield ix, 3)) (k : WW Γ mL u (pc + 3) L (.ref (a 15) :: st)) : WW Γ mL u pc L (.ref (a 4) :: st) := w_get h wi_X2 4 rfl rfl 0 (by decide) hl rfl rfl d k

theorem g4_numbers (h : Cx (W0 κ a) l D κ ε own cc mL ret R post Γ) {ix : Nat} (hl : Cond.fieldLink own ix "Canticle$Script" "numbers" "[I" ∈ Wall) (d : decode cc pc = .ok (.getfield ix, 3)) (k : WW Γ mL u (pc + 3) L (.ref (a 16) :: st)) : WW Γ mL u pc L (.ref (a 4) :: st) := w_get h wi_X2 4 rfl rfl 1 (by decide) hl rfl rfl d k

theorem g4_returns (h : Cx (W0 κ a) l D κ ε own cc mL ret R post Γ) {ix : Nat} (hl : Cond.fieldLink own ix "Canticle$Script" "returns" "[I" ∈ Wall) (d : decode cc pc = .ok (.getfield ix, 3)) (k : WW Γ mL u (pc + 3) L (.ref (a 17) :: st)) : WW Γ mL u pc L (.ref (a 4) :: st) := w_get h wi_X2 4 rfl rfl 2 (by decide) hl rfl rfl d k

theorem g3_least (h : Cx (W0 κ a) l D κ ε own cc mL ret R post Γ) {ix : Nat} {z : Int} (hz : u.1 10 = z) (hl : Cond.fieldLink own ix "Canticle$Search" "least" "[I" ∈ Wall) (d : decode cc pc = .ok (.getfield ix, 3)) (k : WW Γ mL u (pc + 3) L (.ref (a (lb z)) :: st)) : WW Γ mL u pc L (.ref (a 3) :: st) := by
  subst hz
  exact w_get h wi_X3 3 rfl rfl 4 (by decide) hl rfl rfl d k

theorem p3_least (h : Cx (W0 κ a) l D κ ε own cc mL ret R post Γ) {ix : Nat} {z : Int} (hl : Cond.fieldLink own ix "Canticle$Search" "least" "[I" ∈ Wall) (d : decode cc pc = .ok (.putfield ix, 3)) (k : WW Γ mL (uS u 10 z) (pc + 3) L st) : WW Γ mL u pc L (.ref (a (lb z)) :: .ref (a 3) :: st) := w_put h wi_X3 tyX3 tyX3_ok nmX3 3 rfl rfl 4 (by decide) hl rfl rfl (ty := .array .int) (by decide +kernel) rfl rfl (Nat.le_of_ble_eq_true rfl) d (uS u 10 z) rfl rfl k

theorem g3_leastBehind (h : Cx (W0 κ a) l D κ ε own cc mL ret R post Γ) {ix : Nat} {z : Int} (hz : u.1 20 = z) (hl : Cond.fieldLink own ix "Canticle$Search" "leastBehind" "[I" ∈ Wall) (d : decode cc pc = .ok (.getfield ix, 3)) (k : WW Γ mL u (pc + 3) L (.ref (a (lb z)) :: st)) : WW Γ mL u pc L (.ref (a 3) :: st) := by
  subst hz
  exact w_get h wi_X3 3 rfl rfl 5 (by decide) hl rfl rfl d k

theorem p3_leastBehind (h : Cx (W0 κ a) l D κ ε own cc mL ret R post Γ) {ix : Nat} {z : Int} (hl : Cond.fieldLink own ix "Canticle$Search" "leastBehind" "[I" ∈ Wall) (d : decode cc pc = .ok (.putfield ix, 3)) (k : WW Γ mL (uS u 20 z) (pc + 3) L st) : WW Γ mL u pc L (.ref (a (lb z)) :: .ref (a 3) :: st) := w_put h wi_X3 tyX3 tyX3_ok nmX3 3 rfl rfl 5 (by decide) hl rfl rfl (ty := .array .int) (by decide +kernel) rfl rfl (Nat.le_of_ble_eq_true rfl) d (uS u 20 z) rfl rfl k

theorem ws_T {κ a : Nat → Nat} {u : US} {i : Nat} (hi : i < 8) : (WS κ a u)[30 + 3 * i]? = some (a (30 + 3 * i), .inr (4, [.ref (a (31 + 3 * i)), .ref (a (32 + 3 * i)), .int (iI (u.1 (12 + i)))])) := by
  rcases (by omega : i = 0 ∨ i = 1 ∨ i = 2 ∨ i = 3 ∨ i = 4 ∨ i = 5 ∨ i = 6 ∨ i = 7) with rfl | rfl | rfl | rfl | rfl | rfl | rfl | rfl <;> rfl

theorem ws_TK {κ a : Nat → Nat} {u : US} {i : Nat} (hi : i < 8) : (WS κ a u)[31 + 3 * i]? = some (a (31 + 3 * i), .inl (κ 0, 852, .inl (iA (u.2 (31 + 3 * i))))) := by
  rcases (by omega : i = 0 ∨ i = 1 ∨ i = 2 ∨ i = 3 ∨ i = 4 ∨ i = 5 ∨ i = 6 ∨ i = 7) with rfl | rfl | rfl | rfl | rfl | rfl | rfl | rfl <;> rfl

theorem ws_TC {κ a : Nat → Nat} {u : US} {i : Nat} (hi : i < 8) : (WS κ a u)[32 + 3 * i]? = some (a (32 + 3 * i), .inl (κ 0, 852, .inl (iA (u.2 (32 + 3 * i))))) := by
  rcases (by omega : i = 0 ∨ i = 1 ∨ i = 2 ∨ i = 3 ∨ i = 4 ∨ i = 5 ∨ i = 6 ∨ i = 7) with rfl | rfl | rfl | rfl | rfl | rfl | rfl | rfl <;> rfl

theorem st_T {κ a : Nat → Nat} {u : US} {i : Nat} {z : Int} (hi : i < 8) : (WS κ a u).set (30 + 3 * i) (a (30 + 3 * i), .inr (4, [.ref (a (31 + 3 * i)), .ref (a (32 + 3 * i)), .int (iI z)])) = WS κ a (uS u (12 + i) z) := by
  rcases (by omega : i = 0 ∨ i = 1 ∨ i = 2 ∨ i = 3 ∨ i = 4 ∨ i = 5 ∨ i = 6 ∨ i = 7) with rfl | rfl | rfl | rfl | rfl | rfl | rfl | rfl <;> rfl

theorem st_TK {κ a : Nat → Nat} {u : US} {i : Nat} {f : Nat → Int} (hi : i < 8) : (WS κ a u).set (31 + 3 * i) (a (31 + 3 * i), .inl (κ 0, 852, .inl (iA f))) = WS κ a (uA u (31 + 3 * i) f) := by
  rcases (by omega : i = 0 ∨ i = 1 ∨ i = 2 ∨ i = 3 ∨ i = 4 ∨ i = 5 ∨ i = 6 ∨ i = 7) with rfl | rfl | rfl | rfl | rfl | rfl | rfl | rfl <;> rfl

theorem st_TC {κ a : Nat → Nat} {u : US} {i : Nat} {f : Nat → Int} (hi : i < 8) : (WS κ a u).set (32 + 3 * i) (a (32 + 3 * i), .inl (κ 0, 852, .inl (iA f))) = WS κ a (uA u (32 + 3 * i) f) := by
  rcases (by omega : i = 0 ∨ i = 1 ∨ i = 2 ∨ i = 3 ∨ i = 4 ∨ i = 5 ∨ i = 6 ∨ i = 7) with rfl | rfl | rfl | rfl | rfl | rfl | rfl | rfl <;> rfl

theorem gT_size (h : Cx (W0 κ a) l D κ ε own cc mL ret R post Γ) {ix i : Nat} (hi : i < 8) {z : Int} (hz : u.1 (12 + i) = z) (hl : Cond.fieldLink own ix "Canticle$Tally" "size" "I" ∈ Wall) (d : decode cc pc = .ok (.getfield ix, 3)) (k : WW Γ mL u (pc + 3) L (.int (iI z) :: st)) : WW Γ mL u pc L (.ref (a (30 + 3 * i)) :: st) := by
  subst hz
  exact w_get h wi_X4 (30 + 3 * i) (ws_T hi) rfl 2 (by decide) hl rfl rfl d k

theorem pT_size (h : Cx (W0 κ a) l D κ ε own cc mL ret R post Γ) {ix i : Nat} (hi : i < 8) {z : Int} (hl : Cond.fieldLink own ix "Canticle$Tally" "size" "I" ∈ Wall) (d : decode cc pc = .ok (.putfield ix, 3)) (k : WW Γ mL (uS u (12 + i) z) (pc + 3) L st) : WW Γ mL u pc L (.int (iI z) :: .ref (a (30 + 3 * i)) :: st) := w_put h wi_X4 tyX4 tyX4_ok nmX4 (30 + 3 * i) (ws_T hi) rfl 2 (by decide) hl rfl rfl (ty := .int) (by decide +kernel) rfl rfl (Nat.le_of_ble_eq_true rfl) d (uS u (12 + i) z) (st_T hi) rfl k

theorem gT_keys (h : Cx (W0 κ a) l D κ ε own cc mL ret R post Γ) {ix i : Nat} (hi : i < 8) (hl : Cond.fieldLink own ix "Canticle$Tally" "keys" "[I" ∈ Wall) (d : decode cc pc = .ok (.getfield ix, 3)) (k : WW Γ mL u (pc + 3) L (.ref (a (31 + 3 * i)) :: st)) : WW Γ mL u pc L (.ref (a (30 + 3 * i)) :: st) := w_get h wi_X4 (30 + 3 * i) (ws_T hi) rfl 0 (by decide) hl rfl rfl d k

theorem gT_counts (h : Cx (W0 κ a) l D κ ε own cc mL ret R post Γ) {ix i : Nat} (hi : i < 8) (hl : Cond.fieldLink own ix "Canticle$Tally" "counts" "[I" ∈ Wall) (d : decode cc pc = .ok (.getfield ix, 3)) (k : WW Γ mL u (pc + 3) L (.ref (a (32 + 3 * i)) :: st)) : WW Γ mL u pc L (.ref (a (30 + 3 * i)) :: st) := w_get h wi_X4 (30 + 3 * i) (ws_T hi) rfl 1 (by decide) hl rfl rfl d k

theorem ld_sentence (h : Cx (W0 κ a) l D κ ε own cc mL ret R post Γ) {i z : Int} (hi : 0 ≤ i ∧ i < 12) (hz : u.2 6 i.toNat = z) (d : decode cc pc = .ok (.iaload, 1)) (k : WW Γ mL u (pc + 1) L (.int (iI z) :: st)) : WW Γ mL u pc L (.int (iI i) :: .ref (a 6) :: st) := by
  subst hz
  exact w_iald h 6 rfl hi (Nat.le_of_ble_eq_true rfl) rfl d k

theorem st_sentence (h : Cx (W0 κ a) l D κ ε own cc mL ret R post Γ) {i z : Int} (hi : 0 ≤ i ∧ i < 12) (d : decode cc pc = .ok (.iastore, 1)) (k : WW Γ mL (uA u 6 (upI (u.2 6) i.toNat z)) (pc + 1) L st) : WW Γ mL u pc L (.int (iI z) :: .int (iI i) :: .ref (a 6) :: st) := w_iast h 6 rfl hi (Nat.le_of_ble_eq_true rfl) d (uA u 6 (upI (u.2 6) i.toNat z)) (by rw [upd_iA]; exact rfl) rfl k

theorem ld_chances (h : Cx (W0 κ a) l D κ ε own cc mL ret R post Γ) {i z : Int} (hi : 0 ≤ i ∧ i < 13) (hz : u.2 9 i.toNat = z) (d : decode cc pc = .ok (.iaload, 1)) (k : WW Γ mL u (pc + 1) L (.int (iI z) :: st)) : WW Γ mL u pc L (.int (iI i) :: .ref (a 9) :: st) := by
  subst hz
  exact w_iald h 9 rfl hi (Nat.le_of_ble_eq_true rfl) rfl d k

theorem st_chances (h : Cx (W0 κ a) l D κ ε own cc mL ret R post Γ) {i z : Int} (hi : 0 ≤ i ∧ i < 13) (d : decode cc pc = .ok (.iastore, 1)) (k : WW Γ mL (uA u 9 (upI (u.2 9) i.toNat z)) (pc + 1) L st) : WW Γ mL u pc L (.int (iI z) :: .int (iI i) :: .ref (a 9) :: st) := w_iast h 9 rfl hi (Nat.le_of_ble_eq_true rfl) d (uA u 9 (upI (u.2 9) i.toNat z)) (by rw [upd_iA]; exact rfl) rfl k

theorem ld_own (h : Cx (W0 κ a) l D κ ε own cc mL ret R post Γ) {i z : Int} (hi : 0 ≤ i ∧ i < 13) (hz : u.2 10 i.toNat = z) (d : decode cc pc = .ok (.iaload, 1)) (k : WW Γ mL u (pc + 1) L (.int (iI z) :: st)) : WW Γ mL u pc L (.int (iI i) :: .ref (a 10) :: st) := by
  subst hz
  exact w_iald h 10 rfl hi (Nat.le_of_ble_eq_true rfl) rfl d k

theorem st_own (h : Cx (W0 κ a) l D κ ε own cc mL ret R post Γ) {i z : Int} (hi : 0 ≤ i ∧ i < 13) (d : decode cc pc = .ok (.iastore, 1)) (k : WW Γ mL (uA u 10 (upI (u.2 10) i.toNat z)) (pc + 1) L st) : WW Γ mL u pc L (.int (iI z) :: .int (iI i) :: .ref (a 10) :: st) := w_iast h 10 rfl hi (Nat.le_of_ble_eq_true rfl) d (uA u 10 (upI (u.2 10) i.toNat z)) (by rw [upd_iA]; exact rfl) rfl k

theorem ld_costs (h : Cx (W0 κ a) l D κ ε own cc mL ret R post Γ) {i z : Int} (hi : 0 ≤ i ∧ i < 22464) (hz : u.2 11 i.toNat = z) (d : decode cc pc = .ok (.iaload, 1)) (k : WW Γ mL u (pc + 1) L (.int (iI z) :: st)) : WW Γ mL u pc L (.int (iI i) :: .ref (a 11) :: st) := by
  subst hz
  exact w_iald h 11 rfl hi (Nat.le_of_ble_eq_true rfl) rfl d k

theorem st_costs (h : Cx (W0 κ a) l D κ ε own cc mL ret R post Γ) {i z : Int} (hi : 0 ≤ i ∧ i < 22464) (d : decode cc pc = .ok (.iastore, 1)) (k : WW Γ mL (uA u 11 (upI (u.2 11) i.toNat z)) (pc + 1) L st) : WW Γ mL u pc L (.int (iI z) :: .int (iI i) :: .ref (a 11) :: st) := w_iast h 11 rfl hi (Nat.le_of_ble_eq_true rfl) d (uA u 11 (upI (u.2 11) i.toNat z)) (by rw [upd_iA]; exact rfl) rfl k

theorem ld_codes (h : Cx (W0 κ a) l D κ ε own cc mL ret R post Γ) {i z : Int} (hi : 0 ≤ i ∧ i < 12) (hz : u.2 15 i.toNat = z) (d : decode cc pc = .ok (.iaload, 1)) (k : WW Γ mL u (pc + 1) L (.int (iI z) :: st)) : WW Γ mL u pc L (.int (iI i) :: .ref (a 15) :: st) := by
  subst hz
  exact w_iald h 15 rfl hi (Nat.le_of_ble_eq_true rfl) rfl d k

theorem st_codes (h : Cx (W0 κ a) l D κ ε own cc mL ret R post Γ) {i z : Int} (hi : 0 ≤ i ∧ i < 12) (d : decode cc pc = .ok (.iastore, 1)) (k : WW Γ mL (uA u 15 (upI (u.2 15) i.toNat z)) (pc + 1) L st) : WW Γ mL u pc L (.int (iI z) :: .int (iI i) :: .ref (a 15) :: st) := w_iast h 15 rfl hi (Nat.le_of_ble_eq_true rfl) d (uA u 15 (upI (u.2 15) i.toNat z)) (by rw [upd_iA]; exact rfl) rfl k

theorem ld_numbers (h : Cx (W0 κ a) l D κ ε own cc mL ret R post Γ) {i z : Int} (hi : 0 ≤ i ∧ i < 12) (hz : u.2 16 i.toNat = z) (d : decode cc pc = .ok (.iaload, 1)) (k : WW Γ mL u (pc + 1) L (.int (iI z) :: st)) : WW Γ mL u pc L (.int (iI i) :: .ref (a 16) :: st) := by
  subst hz
  exact w_iald h 16 rfl hi (Nat.le_of_ble_eq_true rfl) rfl d k

theorem st_numbers (h : Cx (W0 κ a) l D κ ε own cc mL ret R post Γ) {i z : Int} (hi : 0 ≤ i ∧ i < 12) (d : decode cc pc = .ok (.iastore, 1)) (k : WW Γ mL (uA u 16 (upI (u.2 16) i.toNat z)) (pc + 1) L st) : WW Γ mL u pc L (.int (iI z) :: .int (iI i) :: .ref (a 16) :: st) := w_iast h 16 rfl hi (Nat.le_of_ble_eq_true rfl) d (uA u 16 (upI (u.2 16) i.toNat z)) (by rw [upd_iA]; exact rfl) rfl k

theorem ld_returns (h : Cx (W0 κ a) l D κ ε own cc mL ret R post Γ) {i z : Int} (hi : 0 ≤ i ∧ i < 12) (hz : u.2 17 i.toNat = z) (d : decode cc pc = .ok (.iaload, 1)) (k : WW Γ mL u (pc + 1) L (.int (iI z) :: st)) : WW Γ mL u pc L (.int (iI i) :: .ref (a 17) :: st) := by
  subst hz
  exact w_iald h 17 rfl hi (Nat.le_of_ble_eq_true rfl) rfl d k

theorem st_returns (h : Cx (W0 κ a) l D κ ε own cc mL ret R post Γ) {i z : Int} (hi : 0 ≤ i ∧ i < 12) (d : decode cc pc = .ok (.iastore, 1)) (k : WW Γ mL (uA u 17 (upI (u.2 17) i.toNat z)) (pc + 1) L st) : WW Γ mL u pc L (.int (iI z) :: .int (iI i) :: .ref (a 17) :: st) := w_iast h 17 rfl hi (Nat.le_of_ble_eq_true rfl) d (uA u 17 (upI (u.2 17) i.toNat z)) (by rw [upd_iA]; exact rfl) rfl k

theorem ld_keys (h : Cx (W0 κ a) l D κ ε own cc mL ret R post Γ) {q : Nat} (hq : q < 8) {i z : Int} (hi : 0 ≤ i ∧ i < 852) (hz : u.2 (31 + 3 * q) i.toNat = z) (d : decode cc pc = .ok (.iaload, 1)) (k : WW Γ mL u (pc + 1) L (.int (iI z) :: st)) : WW Γ mL u pc L (.int (iI i) :: .ref (a (31 + 3 * q)) :: st) := by
  subst hz
  exact w_iald h (31 + 3 * q) (ws_TK hq) hi (Nat.le_of_ble_eq_true rfl) rfl d k

theorem st_keys (h : Cx (W0 κ a) l D κ ε own cc mL ret R post Γ) {q : Nat} (hq : q < 8) {i z : Int} (hi : 0 ≤ i ∧ i < 852) (d : decode cc pc = .ok (.iastore, 1)) (k : WW Γ mL (uA u (31 + 3 * q) (upI (u.2 (31 + 3 * q)) i.toNat z)) (pc + 1) L st) : WW Γ mL u pc L (.int (iI z) :: .int (iI i) :: .ref (a (31 + 3 * q)) :: st) := w_iast h (31 + 3 * q) (ws_TK hq) hi (Nat.le_of_ble_eq_true rfl) d (uA u (31 + 3 * q) (upI (u.2 (31 + 3 * q)) i.toNat z)) (by rw [upd_iA]; exact st_TK hq) rfl k

theorem ld_counts (h : Cx (W0 κ a) l D κ ε own cc mL ret R post Γ) {q : Nat} (hq : q < 8) {i z : Int} (hi : 0 ≤ i ∧ i < 852) (hz : u.2 (32 + 3 * q) i.toNat = z) (d : decode cc pc = .ok (.iaload, 1)) (k : WW Γ mL u (pc + 1) L (.int (iI z) :: st)) : WW Γ mL u pc L (.int (iI i) :: .ref (a (32 + 3 * q)) :: st) := by
  subst hz
  exact w_iald h (32 + 3 * q) (ws_TC hq) hi (Nat.le_of_ble_eq_true rfl) rfl d k

theorem st_counts (h : Cx (W0 κ a) l D κ ε own cc mL ret R post Γ) {q : Nat} (hq : q < 8) {i z : Int} (hi : 0 ≤ i ∧ i < 852) (d : decode cc pc = .ok (.iastore, 1)) (k : WW Γ mL (uA u (32 + 3 * q) (upI (u.2 (32 + 3 * q)) i.toNat z)) (pc + 1) L st) : WW Γ mL u pc L (.int (iI z) :: .int (iI i) :: .ref (a (32 + 3 * q)) :: st) := w_iast h (32 + 3 * q) (ws_TC hq) hi (Nat.le_of_ble_eq_true rfl) d (uA u (32 + 3 * q) (upI (u.2 (32 + 3 * q)) i.toNat z)) (by rw [upd_iA]; exact st_TC hq) rfl k

theorem ws_lb {κ a : Nat → Nat} {u : US} (y : Int) : (WS κ a u)[lb y]? = some (a (lb y), .inl (κ 0, 1728, .inl (iA (u.2 (lb y))))) := by
  unfold lb
  by_cases e : y = 0
  · rw [if_pos e]; rfl
  · rw [if_neg e]; rfl

theorem sx_lb {κ a : Nat → Nat} {u : US} (y : Int) {f : Nat → Int} : (WS κ a u).set (lb y) (a (lb y), .inl (κ 0, 1728, .inl (iA f))) = WS κ a (uA u (lb y) f) := by
  unfold lb
  by_cases e : y = 0
  · rw [if_pos e]; rfl
  · rw [if_neg e]; rfl

theorem ld_lb (h : Cx (W0 κ a) l D κ ε own cc mL ret R post Γ) {y : Int} {i z : Int} (hi : 0 ≤ i ∧ i < 1728) (hz : u.2 (lb y) i.toNat = z) (d : decode cc pc = .ok (.iaload, 1)) (k : WW Γ mL u (pc + 1) L (.int (iI z) :: st)) : WW Γ mL u pc L (.int (iI i) :: .ref (a (lb y)) :: st) := by
  subst hz
  exact w_iald h (lb y) (ws_lb y) hi (Nat.le_of_ble_eq_true rfl) rfl d k

theorem st_lb (h : Cx (W0 κ a) l D κ ε own cc mL ret R post Γ) {y : Int} {i z : Int} (hi : 0 ≤ i ∧ i < 1728) (d : decode cc pc = .ok (.iastore, 1)) (k : WW Γ mL (uA u (lb y) (upI (u.2 (lb y)) i.toNat z)) (pc + 1) L st) : WW Γ mL u pc L (.int (iI z) :: .int (iI i) :: .ref (a (lb y)) :: st) := w_iast h (lb y) (ws_lb y) hi (Nat.le_of_ble_eq_true rfl) d (uA u (lb y) (upI (u.2 (lb y)) i.toNat z)) (by rw [upd_iA]; exact sx_lb y) rfl k

theorem ws_ch {κ a : Nat → Nat} {u : US} {q : Nat} (hq : q < 12) : (WS κ a u)[18 + q]? = some (a (18 + q), .inl (κ 0, 1728, .inl (iA (u.2 (18 + q))))) := by
  rcases (by omega : q = 0 ∨ q = 1 ∨ q = 2 ∨ q = 3 ∨ q = 4 ∨ q = 5 ∨ q = 6 ∨ q = 7 ∨ q = 8 ∨ q = 9 ∨ q = 10 ∨ q = 11) with rfl | rfl | rfl | rfl | rfl | rfl | rfl | rfl | rfl | rfl | rfl | rfl <;> rfl

theorem sx_ch {κ a : Nat → Nat} {u : US} {q : Nat} {f : Nat → Int} (hq : q < 12) : (WS κ a u).set (18 + q) (a (18 + q), .inl (κ 0, 1728, .inl (iA f))) = WS κ a (uA u (18 + q) f) := by
  rcases (by omega : q = 0 ∨ q = 1 ∨ q = 2 ∨ q = 3 ∨ q = 4 ∨ q = 5 ∨ q = 6 ∨ q = 7 ∨ q = 8 ∨ q = 9 ∨ q = 10 ∨ q = 11) with rfl | rfl | rfl | rfl | rfl | rfl | rfl | rfl | rfl | rfl | rfl | rfl <;> rfl

theorem ld_ch (h : Cx (W0 κ a) l D κ ε own cc mL ret R post Γ) {q : Nat} (hq : q < 12) {i z : Int} (hi : 0 ≤ i ∧ i < 1728) (hz : u.2 (18 + q) i.toNat = z) (d : decode cc pc = .ok (.iaload, 1)) (k : WW Γ mL u (pc + 1) L (.int (iI z) :: st)) : WW Γ mL u pc L (.int (iI i) :: .ref (a (18 + q)) :: st) := by
  subst hz
  exact w_iald h (18 + q) (ws_ch hq) hi (Nat.le_of_ble_eq_true rfl) rfl d k

theorem st_ch (h : Cx (W0 κ a) l D κ ε own cc mL ret R post Γ) {q : Nat} (hq : q < 12) {i z : Int} (hi : 0 ≤ i ∧ i < 1728) (d : decode cc pc = .ok (.iastore, 1)) (k : WW Γ mL (uA u (18 + q) (upI (u.2 (18 + q)) i.toNat z)) (pc + 1) L st) : WW Γ mL u pc L (.int (iI z) :: .int (iI i) :: .ref (a (18 + q)) :: st) := w_iast h (18 + q) (ws_ch hq) hi (Nat.le_of_ble_eq_true rfl) d (uA u (18 + q) (upI (u.2 (18 + q)) i.toNat z)) (by rw [upd_iA]; exact sx_ch hq) rfl k

theorem ld_doomed (h : Cx (W0 κ a) l D κ ε own cc mL ret R post Γ) {i z : Int} (hi : 0 ≤ i ∧ i < 852) (hz : u.2 5 i.toNat = z) (d : decode cc pc = .ok (.baload, 1)) (k : WW Γ mL u (pc + 1) L (.int (iI z) :: st)) : WW Γ mL u pc L (.int (iI i) :: .ref (a 5) :: st) := by
  subst hz
  exact w_zald h 5 rfl hi (Nat.le_of_ble_eq_true rfl) rfl d k

theorem st_doomed (h : Cx (W0 κ a) l D κ ε own cc mL ret R post Γ) {i z : Int} (hi : 0 ≤ i ∧ i < 852) (h01 : z = 0 ∨ z = 1) (d : decode cc pc = .ok (.bastore, 1)) (k : WW Γ mL (uA u 5 (upI (u.2 5) i.toNat z)) (pc + 1) L st) : WW Γ mL u pc L (.int (iI z) :: .int (iI i) :: .ref (a 5) :: st) := w_zast h 5 rfl hi (Nat.le_of_ble_eq_true rfl) (by rcases h01 with rfl | rfl <;> rfl) d (uA u 5 (upI (u.2 5) i.toNat z)) (by rw [upd_iA]; rfl) rfl k

theorem ld_counted (h : Cx (W0 κ a) l D κ ε own cc mL ret R post Γ) {i : Int} (hi : 0 ≤ i ∧ i < 4) {q : Nat} (hq : q = 30 + 3 * i.toNat) (d : decode cc pc = .ok (.aaload, 1)) (k : WW Γ mL u (pc + 1) L (.ref (a q) :: st)) : WW Γ mL u pc L (.int (iI i) :: .ref (a 7) :: st) := by
  subst hq
  exact w_aald h 7 rfl hi (Nat.le_of_ble_eq_true rfl) rfl d k

theorem ld_varied (h : Cx (W0 κ a) l D κ ε own cc mL ret R post Γ) {i : Int} (hi : 0 ≤ i ∧ i < 4) {q : Nat} (hq : q = 42 + 3 * i.toNat) (d : decode cc pc = .ok (.aaload, 1)) (k : WW Γ mL u (pc + 1) L (.ref (a q) :: st)) : WW Γ mL u pc L (.int (iI i) :: .ref (a 8) :: st) := by
  subst hq
  exact w_aald h 8 rfl hi (Nat.le_of_ble_eq_true rfl) rfl d k

theorem cp_keys (h : Cx (W0 κ a) l D κ ε own cc mL ret R post Γ) {ix q : Nat} (hq : q < 8) (hlink : Cond.methodLink own ix arraycopyName ∈ Wall) {sp dp n : Int} (h1 : 0 ≤ sp ∧ sp < 1000000) (h2 : 0 ≤ dp ∧ dp < 1000000) (h3 : 0 ≤ n ∧ n < 1000000) (h4 : sp + n ≤ 852) (h5 : dp + n ≤ 852) (hfr : 1 ≤ R.frames) (hlo : (st.map fun v => v.category).sum + (nativeFrameWords "java/lang/System" "arraycopy" 5 + 11) ≤ R.locals) (d : decode cc pc = .ok (.invokestatic ix, 3)) (k : WW Γ mL (uA u (31 + 3 * q) (cpI (u.2 (31 + 3 * q)) sp.toNat dp.toNat n.toNat)) (pc + 3) L st) : WW Γ mL u pc L (.int (iI n) :: .int (iI dp) :: .ref (a (31 + 3 * q)) :: .int (iI sp) :: .ref (a (31 + 3 * q)) :: st) := w_copy h hlink wm_189 wm_190 wm_191 (31 + 3 * q) (31 + 3 * q) (ws_TK hq) (ws_TK hq) h1 h2 h3 h4 h5 hfr hlo d (uA u (31 + 3 * q) (cpI (u.2 (31 + 3 * q)) sp.toNat dp.toNat n.toNat)) (by rw [cpy_iA]; exact st_TK hq) rfl k

theorem cp_counts (h : Cx (W0 κ a) l D κ ε own cc mL ret R post Γ) {ix q : Nat} (hq : q < 8) (hlink : Cond.methodLink own ix arraycopyName ∈ Wall) {sp dp n : Int} (h1 : 0 ≤ sp ∧ sp < 1000000) (h2 : 0 ≤ dp ∧ dp < 1000000) (h3 : 0 ≤ n ∧ n < 1000000) (h4 : sp + n ≤ 852) (h5 : dp + n ≤ 852) (hfr : 1 ≤ R.frames) (hlo : (st.map fun v => v.category).sum + (nativeFrameWords "java/lang/System" "arraycopy" 5 + 11) ≤ R.locals) (d : decode cc pc = .ok (.invokestatic ix, 3)) (k : WW Γ mL (uA u (32 + 3 * q) (cpI (u.2 (32 + 3 * q)) sp.toNat dp.toNat n.toNat)) (pc + 3) L st) : WW Γ mL u pc L (.int (iI n) :: .int (iI dp) :: .ref (a (32 + 3 * q)) :: .int (iI sp) :: .ref (a (32 + 3 * q)) :: st) := w_copy h hlink wm_189 wm_190 wm_191 (32 + 3 * q) (32 + 3 * q) (ws_TC hq) (ws_TC hq) h1 h2 h3 h4 h5 hfr hlo d (uA u (32 + 3 * q) (cpI (u.2 (32 + 3 * q)) sp.toNat dp.toNat n.toNat)) (by rw [cpy_iA]; exact st_TC hq) rfl k

end WROWS
end
section
/-! a tally's cells and its list -/
def TR (u : US) (i : Nat) (t : List (Nat × Nat)) : Prop := u.1 (12 + i) = (t.length : Int) ∧ ∀ (j : Nat) (b : Nat × Nat), t[j]? = some b → u.2 (31 + 3 * i) j = (b.1 : Int) ∧ u.2 (32 + 3 * i) j = (b.2 : Int)
/-- the same, but for the place e -/
def TRx (u : US) (i : Nat) (t : List (Nat × Nat)) (e : Nat) : Prop := u.1 (12 + i) = (t.length : Int) ∧ ∀ (j : Nat) (b : Nat × Nat), t[j]? = some b → j ≠ e → u.2 (31 + 3 * i) j = (b.1 : Int) ∧ u.2 (32 + 3 * i) j = (b.2 : Int)
/-- a tally in order: sorted, counts above nothing, small -/
def TO (t : List (Nat × Nat)) : Prop := So t ∧ Po t ∧ t.length ≤ 852 ∧ ∀ b ∈ t, b.1 < 1000000 ∧ b.2 ≤ 1000000
theorem TR.x {u : US} {i : Nat} {t : List (Nat × Nat)} (h : TR u i t) (e : Nat) : TRx u i t e := ⟨h.1, fun j b hb _ => h.2 j b hb⟩
theorem TO.at {t : List (Nat × Nat)} (h : TO t) {j : Nat} {b : Nat × Nat} (hb : t[j]? = some b) : b.1 < 1000000 ∧ b.2 ≤ 1000000 ∧ 0 < b.2 := ⟨(h.2.2.2 b (List.mem_of_getElem? hb)).1, (h.2.2.2 b (List.mem_of_getElem? hb)).2, h.2.1 b (List.mem_of_getElem? hb)⟩
theorem bw_at {t : List (Nat × Nat)} {k j : Nat} {b : Nat × Nat} (hs : So t) (hb : t[j]? = some b) : b.1 < k ↔ j < bw t k := by
  obtain ⟨hj, e⟩ := List.getElem?_eq_some_iff.mp hb
  subst e
  constructor
  · intro h
    rcases Nat.lt_or_ge j (bw t k) with q | q
    · exact q
    · have := bw_ge hs hj q
      omega
  · intro h
    exact bw_lt hj h
/-- what stands at its place -/
theorem gt_at {t : List (Nat × Nat)} {k : Nat} (hs : So t) (hp : Po t) : (0 < gt t k → t[bw t k]? = some (k, gt t k)) ∧ (¬ 0 < gt t k → ∀ b, t[bw t k]? = some b → b.1 ≠ k) := by
  constructor
  · intro h
    obtain ⟨b, hb, h1, h2⟩ := gt_has h
    have := hs.there hb
    rw [h1] at this
    rw [this, ← h2]
    exact congrArg some (Prod.ext h1 rfl)
  · intro h b hb e
    exact gt_none hs hp h b (List.mem_of_getElem? hb) e
theorem getN {t : List (Nat × Nat)} {j : Nat} (h : j < t.length) : ∃ b, t[j]? = some b := ⟨t[j], List.getElem?_eq_getElem h⟩
theorem TR_del {u u' : US} {i k d : Nat} {t : List (Nat × Nat)} {s1 s2 d1 d2 n1 n2 : Nat} (hs : So t) (hT : TRx u i t (bw t k)) (hb : t[bw t k]? = some (k, d)) (h1 : u'.1 (12 + i) = (t.length : Int) - 1)
    (h2 : u'.2 (31 + 3 * i) = cpI (u.2 (31 + 3 * i)) s1 d1 n1) (h3 : u'.2 (32 + 3 * i) = cpI (u.2 (32 + 3 * i)) s2 d2 n2) (e1 : s1 = bw t k + 1) (e2 : d1 = bw t k) (e3 : n1 = t.length - bw t k - 1) (e4 : s2 = bw t k + 1) (e5 : d2 = bw t k) (e6 : n2 = t.length - bw t k - 1) : TR u' i (del t k) := by
  subst e1 e2 e3 e4 e5 e6
  have hl : (del t k).length + 1 = t.length := del_len ⟨_, List.mem_of_getElem? hb, rfl⟩
  refine ⟨by rw [h1]; omega, fun j b hj => ?_⟩
  have hj2 : j < (del t k).length := (List.getElem?_eq_some_iff.mp hj).1
  rw [del_at hs hb] at hj
  rw [h2, h3]
  unfold cpI
  by_cases q : j < bw t k
  · rw [if_pos q] at hj
    rw [if_neg (by omega), if_neg (by omega)]
    exact hT.2 j b hj (by omega)
  · rw [if_neg q] at hj
    rw [if_pos (by omega), if_pos (by omega)]
    rw [show bw t k + 1 + (j - bw t k) = j + 1 by omega]
    exact hT.2 (j + 1) b hj (by omega)
theorem TR_ins {u u' : US} {i k c : Nat} {t : List (Nat × Nat)} {s1 s2 d1 d2 n1 n2 p1 p2 : Nat} {v1 v2 : Int} (hT : TR u i t) (h1 : u'.1 (12 + i) = (t.length : Int) + 1)
    (h2 : u'.2 (31 + 3 * i) = upI (cpI (u.2 (31 + 3 * i)) s1 d1 n1) p1 v1) (h3 : u'.2 (32 + 3 * i) = upI (cpI (u.2 (32 + 3 * i)) s2 d2 n2) p2 v2) (e1 : s1 = bw t k) (e2 : d1 = bw t k + 1) (e3 : n1 = t.length - bw t k) (e4 : s2 = bw t k) (e5 : d2 = bw t k + 1) (e6 : n2 = t.length - bw t k) (e7 : p1 = bw t k) (e8 : p2 = bw t k) (e9 : v1 = (k : Int)) (e10 : v2 = (c : Int)) : TR u' i (ins t k c) := by
  subst e1 e2 e3 e4 e5 e6 e7 e8 e9 e10
  have hw := bw_le t k
  refine ⟨by rw [h1, ins_len]; rfl, fun j b hj => ?_⟩
  have hj2 : j < (ins t k c).length := (List.getElem?_eq_some_iff.mp hj).1
  rw [ins_len] at hj2
  rw [ins_at] at hj
  rw [h2, h3]
  unfold upI cpI
  by_cases q : j < bw t k
  · rw [if_pos q] at hj
    rw [if_neg (by omega), if_neg (by omega), if_neg (by omega), if_neg (by omega)]
    exact hT.2 j b hj
  · rw [if_neg q] at hj
    by_cases q2 : j = bw t k
    · rw [if_pos q2] at hj
      cases hj
      rw [if_pos q2, if_pos q2]
      exact ⟨rfl, rfl⟩
    · rw [if_neg q2] at hj
      rw [if_neg q2, if_neg q2, if_pos (by omega), if_pos (by omega)]
      rw [show bw t k + (j - (bw t k + 1)) = j - 1 by omega]
      exact hT.2 (j - 1) b hj
theorem TR_cst {u u' : US} {i k c d p : Nat} {t : List (Nat × Nat)} {v : Int} (hs : So t) (hT : TR u i t) (hb : t[bw t k]? = some (k, d)) (h1 : u'.1 (12 + i) = u.1 (12 + i)) (h2 : u'.2 (31 + 3 * i) = u.2 (31 + 3 * i)) (h3 : u'.2 (32 + 3 * i) = upI (u.2 (32 + 3 * i)) p v) (e1 : p = bw t k) (e2 : v = (c : Int)) : TR u' i (cst t k c) := by
  subst e1 e2
  refine ⟨by rw [h1, hT.1, cst_len], fun j b hj => ?_⟩
  rw [cst_at hs hb] at hj
  rw [h2, h3]
  unfold upI
  by_cases q : j = bw t k
  · rw [if_pos q] at hj
    cases hj
    rw [if_pos q]
    exact ⟨by rw [q]; exact (hT.2 _ _ hb).1, rfl⟩
  · rw [if_neg q] at hj
    rw [if_neg q]
    exact hT.2 j b hj
theorem TRx_up {u u' : US} {i k p : Nat} {t : List (Nat × Nat)} {v : Int} (hT : TR u i t) (h1 : u'.1 (12 + i) = u.1 (12 + i)) (h2 : u'.2 (31 + 3 * i) = u.2 (31 + 3 * i)) (h3 : u'.2 (32 + 3 * i) = upI (u.2 (32 + 3 * i)) p v) (e1 : p = bw t k) : TRx u' i t (bw t k) := by
  subst e1
  refine ⟨by rw [h1, hT.1], fun j b hj hne => ?_⟩
  rw [h2, h3]
  unfold upI
  rw [if_neg hne]
  exact hT.2 j b hj
end
section
theorem dX4_keysBelow_0 : decode cX4_keysBelow 0 = .ok (.iconst 0, 1) := by decide +kernel
theorem dX4_keysBelow_1 : decode cX4_keysBelow 1 = .ok (.istore_n 2, 1) := by decide +kernel
theorem dX4_keysBelow_2 : decode cX4_keysBelow 2 = .ok (.sipush 512, 3) := by decide +kernel
theorem dX4_keysBelow_5 : decode cX4_keysBelow 5 = .ok (.istore_n 3, 1) := by decide +kernel
theorem dX4_keysBelow_6 : decode cX4_keysBelow 6 = .ok (.iload_n 3, 1) := by decide +kernel
theorem dX4_keysBelow_7 : decode cX4_keysBelow 7 = .ok (.ifCond .le 38, 3) := by decide +kernel
theorem dX4_keysBelow_10 : decode cX4_keysBelow 10 = .ok (.iload_n 2, 1) := by decide +kernel
theorem dX4_keysBelow_11 : decode cX4_keysBelow 11 = .ok (.iload_n 3, 1) := by decide +kernel
theorem dX4_keysBelow_12 : decode cX4_keysBelow 12 = .ok (.iadd, 1) := by decide +kernel
theorem dX4_keysBelow_13 : decode cX4_keysBelow 13 = .ok (.aload_n 0, 1) := by decide +kernel
theorem dX4_keysBelow_14 : decode cX4_keysBelow 14 = .ok (.getfield 16, 3) := by decide +kernel
theorem dX4_keysBelow_17 : decode cX4_keysBelow 17 = .ok (.if_icmp .gt 21, 3) := by decide +kernel
theorem dX4_keysBelow_20 : decode cX4_keysBelow 20 = .ok (.aload_n 0, 1) := by decide +kernel
theorem dX4_keysBelow_21 : decode cX4_keysBelow 21 = .ok (.getfield 9, 3) := by decide +kernel
theorem dX4_keysBelow_24 : decode cX4_keysBelow 24 = .ok (.iload_n 2, 1) := by decide +kernel
theorem dX4_keysBelow_25 : decode cX4_keysBelow 25 = .ok (.iload_n 3, 1) := by decide +kernel
theorem dX4_keysBelow_26 : decode cX4_keysBelow 26 = .ok (.iadd, 1) := by decide +kernel
theorem dX4_keysBelow_27 : decode cX4_keysBelow 27 = .ok (.iconst 1, 1) := by decide +kernel
theorem dX4_keysBelow_28 : decode cX4_keysBelow 28 = .ok (.isub, 1) := by decide +kernel
theorem dX4_keysBelow_29 : decode cX4_keysBelow 29 = .ok (.iaload, 1) := by decide +kernel
theorem dX4_keysBelow_30 : decode cX4_keysBelow 30 = .ok (.iload_n 1, 1) := by decide +kernel
theorem dX4_keysBelow_31 : decode cX4_keysBelow 31 = .ok (.if_icmp .ge 7, 3) := by decide +kernel
theorem dX4_keysBelow_34 : decode cX4_keysBelow 34 = .ok (.iload_n 2, 1) := by decide +kernel
theorem dX4_keysBelow_35 : decode cX4_keysBelow 35 = .ok (.iload_n 3, 1) := by decide +kernel
theorem dX4_keysBelow_36 : decode cX4_keysBelow 36 = .ok (.iadd, 1) := by decide +kernel
theorem dX4_keysBelow_37 : decode cX4_keysBelow 37 = .ok (.istore_n 2, 1) := by decide +kernel
theorem dX4_keysBelow_38 : decode cX4_keysBelow 38 = .ok (.iload_n 3, 1) := by decide +kernel
theorem dX4_keysBelow_39 : decode cX4_keysBelow 39 = .ok (.iconst 2, 1) := by decide +kernel
theorem dX4_keysBelow_40 : decode cX4_keysBelow 40 = .ok (.idiv, 1) := by decide +kernel
theorem dX4_keysBelow_41 : decode cX4_keysBelow 41 = .ok (.istore_n 3, 1) := by decide +kernel
theorem dX4_keysBelow_42 : decode cX4_keysBelow 42 = .ok (.goto (-36), 3) := by decide +kernel
theorem dX4_keysBelow_45 : decode cX4_keysBelow 45 = .ok (.iload_n 2, 1) := by decide +kernel
theorem dX4_keysBelow_46 : decode cX4_keysBelow 46 = .ok (.ireturn, 1) := by decide +kernel
theorem dX4_lower_0 : decode cX4_lower 0 = .ok (.aload_n 0, 1) := by decide +kernel
theorem dX4_lower_1 : decode cX4_lower 1 = .ok (.iload_n 1, 1) := by decide +kernel
theorem dX4_lower_2 : decode cX4_lower 2 = .ok (.invokevirtual 20, 3) := by decide +kernel
theorem dX4_lower_5 : decode cX4_lower 5 = .ok (.istore_n 3, 1) := by decide +kernel
theorem dX4_lower_6 : decode cX4_lower 6 = .ok (.aload_n 0, 1) := by decide +kernel
theorem dX4_lower_7 : decode cX4_lower 7 = .ok (.iload_n 3, 1) := by decide +kernel
theorem dX4_lower_8 : decode cX4_lower 8 = .ok (.iload_n 1, 1) := by decide +kernel
theorem dX4_lower_9 : decode cX4_lower 9 = .ok (.invokevirtual 24, 3) := by decide +kernel
theorem dX4_lower_12 : decode cX4_lower 12 = .ok (.ifCond .ne 5, 3) := by decide +kernel
theorem dX4_lower_15 : decode cX4_lower 15 = .ok (.iconst 0, 1) := by decide +kernel
theorem dX4_lower_16 : decode cX4_lower 16 = .ok (.ireturn, 1) := by decide +kernel
theorem dX4_lower_17 : decode cX4_lower 17 = .ok (.aload_n 0, 1) := by decide +kernel
theorem dX4_lower_18 : decode cX4_lower 18 = .ok (.getfield 13, 3) := by decide +kernel
theorem dX4_lower_21 : decode cX4_lower 21 = .ok (.iload_n 3, 1) := by decide +kernel
theorem dX4_lower_22 : decode cX4_lower 22 = .ok (.dup2, 1) := by decide +kernel
theorem dX4_lower_23 : decode cX4_lower 23 = .ok (.iaload, 1) := by decide +kernel
theorem dX4_lower_24 : decode cX4_lower 24 = .ok (.iload_n 2, 1) := by decide +kernel
theorem dX4_lower_25 : decode cX4_lower 25 = .ok (.isub, 1) := by decide +kernel
theorem dX4_lower_26 : decode cX4_lower 26 = .ok (.iastore, 1) := by decide +kernel
theorem dX4_lower_27 : decode cX4_lower 27 = .ok (.aload_n 0, 1) := by decide +kernel
theorem dX4_lower_28 : decode cX4_lower 28 = .ok (.getfield 13, 3) := by decide +kernel
theorem dX4_lower_31 : decode cX4_lower 31 = .ok (.iload_n 3, 1) := by decide +kernel
theorem dX4_lower_32 : decode cX4_lower 32 = .ok (.iaload, 1) := by decide +kernel
theorem dX4_lower_33 : decode cX4_lower 33 = .ok (.ifCond .le 5, 3) := by decide +kernel
theorem dX4_lower_36 : decode cX4_lower 36 = .ok (.iconst 0, 1) := by decide +kernel
theorem dX4_lower_37 : decode cX4_lower 37 = .ok (.ireturn, 1) := by decide +kernel
theorem dX4_lower_38 : decode cX4_lower 38 = .ok (.aload_n 0, 1) := by decide +kernel
theorem dX4_lower_39 : decode cX4_lower 39 = .ok (.iload_n 3, 1) := by decide +kernel
theorem dX4_lower_40 : decode cX4_lower 40 = .ok (.invokevirtual 41, 3) := by decide +kernel
theorem dX4_lower_43 : decode cX4_lower 43 = .ok (.iconst 1, 1) := by decide +kernel
theorem dX4_lower_44 : decode cX4_lower 44 = .ok (.ireturn, 1) := by decide +kernel
theorem dX4_numberOf_0 : decode cX4_numberOf 0 = .ok (.aload_n 0, 1) := by decide +kernel
theorem dX4_numberOf_1 : decode cX4_numberOf 1 = .ok (.iload_n 1, 1) := by decide +kernel
theorem dX4_numberOf_2 : decode cX4_numberOf 2 = .ok (.invokevirtual 20, 3) := by decide +kernel
theorem dX4_numberOf_5 : decode cX4_numberOf 5 = .ok (.istore_n 2, 1) := by decide +kernel
theorem dX4_numberOf_6 : decode cX4_numberOf 6 = .ok (.aload_n 0, 1) := by decide +kernel
theorem dX4_numberOf_7 : decode cX4_numberOf 7 = .ok (.iload_n 2, 1) := by decide +kernel
theorem dX4_numberOf_8 : decode cX4_numberOf 8 = .ok (.iload_n 1, 1) := by decide +kernel
theorem dX4_numberOf_9 : decode cX4_numberOf 9 = .ok (.invokevirtual 24, 3) := by decide +kernel
theorem dX4_numberOf_12 : decode cX4_numberOf 12 = .ok (.ifCond .eq 12, 3) := by decide +kernel
theorem dX4_numberOf_15 : decode cX4_numberOf 15 = .ok (.aload_n 0, 1) := by decide +kernel
theorem dX4_numberOf_16 : decode cX4_numberOf 16 = .ok (.getfield 13, 3) := by decide +kernel
theorem dX4_numberOf_19 : decode cX4_numberOf 19 = .ok (.iload_n 2, 1) := by decide +kernel
theorem dX4_numberOf_20 : decode cX4_numberOf 20 = .ok (.iaload, 1) := by decide +kernel
theorem dX4_numberOf_21 : decode cX4_numberOf 21 = .ok (.goto 4, 3) := by decide +kernel
theorem dX4_numberOf_24 : decode cX4_numberOf 24 = .ok (.iconst 0, 1) := by decide +kernel
theorem dX4_numberOf_25 : decode cX4_numberOf 25 = .ok (.ireturn, 1) := by decide +kernel
theorem dX4_raise_0 : decode cX4_raise 0 = .ok (.aload_n 0, 1) := by decide +kernel
theorem dX4_raise_1 : decode cX4_raise 1 = .ok (.iload_n 1, 1) := by decide +kernel
theorem dX4_raise_2 : decode cX4_raise 2 = .ok (.invokevirtual 20, 3) := by decide +kernel
theorem dX4_raise_5 : decode cX4_raise 5 = .ok (.istore_n 3, 1) := by decide +kernel
theorem dX4_raise_6 : decode cX4_raise 6 = .ok (.aload_n 0, 1) := by decide +kernel
theorem dX4_raise_7 : decode cX4_raise 7 = .ok (.iload_n 3, 1) := by decide +kernel
theorem dX4_raise_8 : decode cX4_raise 8 = .ok (.iload_n 1, 1) := by decide +kernel
theorem dX4_raise_9 : decode cX4_raise 9 = .ok (.invokevirtual 24, 3) := by decide +kernel
theorem dX4_raise_12 : decode cX4_raise 12 = .ok (.ifCond .eq 24, 3) := by decide +kernel
theorem dX4_raise_15 : decode cX4_raise 15 = .ok (.aload_n 0, 1) := by decide +kernel
theorem dX4_raise_16 : decode cX4_raise 16 = .ok (.getfield 13, 3) := by decide +kernel
theorem dX4_raise_19 : decode cX4_raise 19 = .ok (.iload_n 3, 1) := by decide +kernel
theorem dX4_raise_20 : decode cX4_raise 20 = .ok (.ldc 28, 2) := by decide +kernel
theorem dX4_raise_22 : decode cX4_raise 22 = .ok (.aload_n 0, 1) := by decide +kernel
theorem dX4_raise_23 : decode cX4_raise 23 = .ok (.getfield 13, 3) := by decide +kernel
theorem dX4_raise_26 : decode cX4_raise 26 = .ok (.iload_n 3, 1) := by decide +kernel
theorem dX4_raise_27 : decode cX4_raise 27 = .ok (.iaload, 1) := by decide +kernel
theorem dX4_raise_28 : decode cX4_raise 28 = .ok (.iload_n 2, 1) := by decide +kernel
theorem dX4_raise_29 : decode cX4_raise 29 = .ok (.iadd, 1) := by decide +kernel
theorem dX4_raise_30 : decode cX4_raise 30 = .ok (.invokestatic 29, 3) := by decide +kernel
theorem dX4_raise_33 : decode cX4_raise 33 = .ok (.iastore, 1) := by decide +kernel
theorem dX4_raise_34 : decode cX4_raise 34 = .ok (.iconst 0, 1) := by decide +kernel
theorem dX4_raise_35 : decode cX4_raise 35 = .ok (.ireturn, 1) := by decide +kernel
theorem dX4_raise_36 : decode cX4_raise 36 = .ok (.aload_n 0, 1) := by decide +kernel
theorem dX4_raise_37 : decode cX4_raise 37 = .ok (.getfield 16, 3) := by decide +kernel
theorem dX4_raise_40 : decode cX4_raise 40 = .ok (.sipush 852, 3) := by decide +kernel
theorem dX4_raise_43 : decode cX4_raise 43 = .ok (.if_icmp .lt 5, 3) := by decide +kernel
theorem dX4_raise_48 : decode cX4_raise 48 = .ok (.aload_n 0, 1) := by decide +kernel
theorem dX4_raise_49 : decode cX4_raise 49 = .ok (.getfield 9, 3) := by decide +kernel
theorem dX4_raise_52 : decode cX4_raise 52 = .ok (.iload_n 3, 1) := by decide +kernel
theorem dX4_raise_53 : decode cX4_raise 53 = .ok (.aload_n 0, 1) := by decide +kernel
theorem dX4_raise_54 : decode cX4_raise 54 = .ok (.getfield 9, 3) := by decide +kernel
theorem dX4_raise_57 : decode cX4_raise 57 = .ok (.iload_n 3, 1) := by decide +kernel
theorem dX4_raise_58 : decode cX4_raise 58 = .ok (.iconst 1, 1) := by decide +kernel
theorem dX4_raise_59 : decode cX4_raise 59 = .ok (.iadd, 1) := by decide +kernel
theorem dX4_raise_60 : decode cX4_raise 60 = .ok (.aload_n 0, 1) := by decide +kernel
theorem dX4_raise_61 : decode cX4_raise 61 = .ok (.getfield 16, 3) := by decide +kernel
theorem dX4_raise_64 : decode cX4_raise 64 = .ok (.iload_n 3, 1) := by decide +kernel
theorem dX4_raise_65 : decode cX4_raise 65 = .ok (.isub, 1) := by decide +kernel
theorem dX4_raise_66 : decode cX4_raise 66 = .ok (.invokestatic 35, 3) := by decide +kernel
theorem dX4_raise_69 : decode cX4_raise 69 = .ok (.aload_n 0, 1) := by decide +kernel
theorem dX4_raise_70 : decode cX4_raise 70 = .ok (.getfield 13, 3) := by decide +kernel
theorem dX4_raise_73 : decode cX4_raise 73 = .ok (.iload_n 3, 1) := by decide +kernel
theorem dX4_raise_74 : decode cX4_raise 74 = .ok (.aload_n 0, 1) := by decide +kernel
theorem dX4_raise_75 : decode cX4_raise 75 = .ok (.getfield 13, 3) := by decide +kernel
theorem dX4_raise_78 : decode cX4_raise 78 = .ok (.iload_n 3, 1) := by decide +kernel
theorem dX4_raise_79 : decode cX4_raise 79 = .ok (.iconst 1, 1) := by decide +kernel
theorem dX4_raise_80 : decode cX4_raise 80 = .ok (.iadd, 1) := by decide +kernel
theorem dX4_raise_81 : decode cX4_raise 81 = .ok (.aload_n 0, 1) := by decide +kernel
theorem dX4_raise_82 : decode cX4_raise 82 = .ok (.getfield 16, 3) := by decide +kernel
theorem dX4_raise_85 : decode cX4_raise 85 = .ok (.iload_n 3, 1) := by decide +kernel
theorem dX4_raise_86 : decode cX4_raise 86 = .ok (.isub, 1) := by decide +kernel
theorem dX4_raise_87 : decode cX4_raise 87 = .ok (.invokestatic 35, 3) := by decide +kernel
theorem dX4_raise_90 : decode cX4_raise 90 = .ok (.aload_n 0, 1) := by decide +kernel
theorem dX4_raise_91 : decode cX4_raise 91 = .ok (.getfield 9, 3) := by decide +kernel
theorem dX4_raise_94 : decode cX4_raise 94 = .ok (.iload_n 3, 1) := by decide +kernel
theorem dX4_raise_95 : decode cX4_raise 95 = .ok (.iload_n 1, 1) := by decide +kernel
theorem dX4_raise_96 : decode cX4_raise 96 = .ok (.iastore, 1) := by decide +kernel
theorem dX4_raise_97 : decode cX4_raise 97 = .ok (.aload_n 0, 1) := by decide +kernel
theorem dX4_raise_98 : decode cX4_raise 98 = .ok (.getfield 13, 3) := by decide +kernel
theorem dX4_raise_101 : decode cX4_raise 101 = .ok (.iload_n 3, 1) := by decide +kernel
theorem dX4_raise_102 : decode cX4_raise 102 = .ok (.iload_n 2, 1) := by decide +kernel
theorem dX4_raise_103 : decode cX4_raise 103 = .ok (.iastore, 1) := by decide +kernel
theorem dX4_raise_104 : decode cX4_raise 104 = .ok (.aload_n 0, 1) := by decide +kernel
theorem dX4_raise_105 : decode cX4_raise 105 = .ok (.dup, 1) := by decide +kernel
theorem dX4_raise_106 : decode cX4_raise 106 = .ok (.getfield 16, 3) := by decide +kernel
theorem dX4_raise_109 : decode cX4_raise 109 = .ok (.iconst 1, 1) := by decide +kernel
theorem dX4_raise_110 : decode cX4_raise 110 = .ok (.iadd, 1) := by decide +kernel
theorem dX4_raise_111 : decode cX4_raise 111 = .ok (.putfield 16, 3) := by decide +kernel
theorem dX4_raise_114 : decode cX4_raise 114 = .ok (.iconst 1, 1) := by decide +kernel
theorem dX4_raise_115 : decode cX4_raise 115 = .ok (.ireturn, 1) := by decide +kernel
theorem dX4_removeAt_0 : decode cX4_removeAt 0 = .ok (.iload_n 1, 1) := by decide +kernel
theorem dX4_removeAt_1 : decode cX4_removeAt 1 = .ok (.ifCond .lt 11, 3) := by decide +kernel
theorem dX4_removeAt_4 : decode cX4_removeAt 4 = .ok (.iload_n 1, 1) := by decide +kernel
theorem dX4_removeAt_5 : decode cX4_removeAt 5 = .ok (.aload_n 0, 1) := by decide +kernel
theorem dX4_removeAt_6 : decode cX4_removeAt 6 = .ok (.getfield 16, 3) := by decide +kernel
theorem dX4_removeAt_9 : decode cX4_removeAt 9 = .ok (.if_icmp .lt 4, 3) := by decide +kernel
theorem dX4_removeAt_13 : decode cX4_removeAt 13 = .ok (.aload_n 0, 1) := by decide +kernel
theorem dX4_removeAt_14 : decode cX4_removeAt 14 = .ok (.getfield 9, 3) := by decide +kernel
theorem dX4_removeAt_17 : decode cX4_removeAt 17 = .ok (.iload_n 1, 1) := by decide +kernel
theorem dX4_removeAt_18 : decode cX4_removeAt 18 = .ok (.iconst 1, 1) := by decide +kernel
theorem dX4_removeAt_19 : decode cX4_removeAt 19 = .ok (.iadd, 1) := by decide +kernel
theorem dX4_removeAt_20 : decode cX4_removeAt 20 = .ok (.aload_n 0, 1) := by decide +kernel
theorem dX4_removeAt_21 : decode cX4_removeAt 21 = .ok (.getfield 9, 3) := by decide +kernel
theorem dX4_removeAt_24 : decode cX4_removeAt 24 = .ok (.iload_n 1, 1) := by decide +kernel
theorem dX4_removeAt_25 : decode cX4_removeAt 25 = .ok (.aload_n 0, 1) := by decide +kernel
theorem dX4_removeAt_26 : decode cX4_removeAt 26 = .ok (.getfield 16, 3) := by decide +kernel
theorem dX4_removeAt_29 : decode cX4_removeAt 29 = .ok (.iload_n 1, 1) := by decide +kernel
theorem dX4_removeAt_30 : decode cX4_removeAt 30 = .ok (.isub, 1) := by decide +kernel
theorem dX4_removeAt_31 : decode cX4_removeAt 31 = .ok (.iconst 1, 1) := by decide +kernel
theorem dX4_removeAt_32 : decode cX4_removeAt 32 = .ok (.isub, 1) := by decide +kernel
theorem dX4_removeAt_33 : decode cX4_removeAt 33 = .ok (.invokestatic 35, 3) := by decide +kernel
theorem dX4_removeAt_36 : decode cX4_removeAt 36 = .ok (.aload_n 0, 1) := by decide +kernel
theorem dX4_removeAt_37 : decode cX4_removeAt 37 = .ok (.getfield 13, 3) := by decide +kernel
theorem dX4_removeAt_40 : decode cX4_removeAt 40 = .ok (.iload_n 1, 1) := by decide +kernel
theorem dX4_removeAt_41 : decode cX4_removeAt 41 = .ok (.iconst 1, 1) := by decide +kernel
theorem dX4_removeAt_42 : decode cX4_removeAt 42 = .ok (.iadd, 1) := by decide +kernel
theorem dX4_removeAt_43 : decode cX4_removeAt 43 = .ok (.aload_n 0, 1) := by decide +kernel
theorem dX4_removeAt_44 : decode cX4_removeAt 44 = .ok (.getfield 13, 3) := by decide +kernel
theorem dX4_removeAt_47 : decode cX4_removeAt 47 = .ok (.iload_n 1, 1) := by decide +kernel
theorem dX4_removeAt_48 : decode cX4_removeAt 48 = .ok (.aload_n 0, 1) := by decide +kernel
theorem dX4_removeAt_49 : decode cX4_removeAt 49 = .ok (.getfield 16, 3) := by decide +kernel
theorem dX4_removeAt_52 : decode cX4_removeAt 52 = .ok (.iload_n 1, 1) := by decide +kernel
theorem dX4_removeAt_53 : decode cX4_removeAt 53 = .ok (.isub, 1) := by decide +kernel
theorem dX4_removeAt_54 : decode cX4_removeAt 54 = .ok (.iconst 1, 1) := by decide +kernel
theorem dX4_removeAt_55 : decode cX4_removeAt 55 = .ok (.isub, 1) := by decide +kernel
theorem dX4_removeAt_56 : decode cX4_removeAt 56 = .ok (.invokestatic 35, 3) := by decide +kernel
theorem dX4_removeAt_59 : decode cX4_removeAt 59 = .ok (.aload_n 0, 1) := by decide +kernel
theorem dX4_removeAt_60 : decode cX4_removeAt 60 = .ok (.dup, 1) := by decide +kernel
theorem dX4_removeAt_61 : decode cX4_removeAt 61 = .ok (.getfield 16, 3) := by decide +kernel
theorem dX4_removeAt_64 : decode cX4_removeAt 64 = .ok (.iconst 1, 1) := by decide +kernel
theorem dX4_removeAt_65 : decode cX4_removeAt 65 = .ok (.isub, 1) := by decide +kernel
theorem dX4_removeAt_66 : decode cX4_removeAt 66 = .ok (.putfield 16, 3) := by decide +kernel
theorem dX4_removeAt_69 : decode cX4_removeAt 69 = .ok (.return_, 1) := by decide +kernel
theorem dX4_standsAt_0 : decode cX4_standsAt 0 = .ok (.iload_n 1, 1) := by decide +kernel
theorem dX4_standsAt_1 : decode cX4_standsAt 1 = .ok (.aload_n 0, 1) := by decide +kernel
theorem dX4_standsAt_2 : decode cX4_standsAt 2 = .ok (.getfield 16, 3) := by decide +kernel
theorem dX4_standsAt_5 : decode cX4_standsAt 5 = .ok (.if_icmp .ge 17, 3) := by decide +kernel
theorem dX4_standsAt_8 : decode cX4_standsAt 8 = .ok (.aload_n 0, 1) := by decide +kernel
theorem dX4_standsAt_9 : decode cX4_standsAt 9 = .ok (.getfield 9, 3) := by decide +kernel
theorem dX4_standsAt_12 : decode cX4_standsAt 12 = .ok (.iload_n 1, 1) := by decide +kernel
theorem dX4_standsAt_13 : decode cX4_standsAt 13 = .ok (.iaload, 1) := by decide +kernel
theorem dX4_standsAt_14 : decode cX4_standsAt 14 = .ok (.iload_n 2, 1) := by decide +kernel
theorem dX4_standsAt_15 : decode cX4_standsAt 15 = .ok (.if_icmp .ne 7, 3) := by decide +kernel
theorem dX4_standsAt_18 : decode cX4_standsAt 18 = .ok (.iconst 1, 1) := by decide +kernel
theorem dX4_standsAt_19 : decode cX4_standsAt 19 = .ok (.goto 4, 3) := by decide +kernel
theorem dX4_standsAt_22 : decode cX4_standsAt 22 = .ok (.iconst 0, 1) := by decide +kernel
theorem dX4_standsAt_23 : decode cX4_standsAt 23 = .ok (.ireturn, 1) := by decide +kernel
set_option maxHeartbeats 4000000 in
set_option maxRecDepth 100000 in
theorem mX4_keysBelow (l : Launch) (D : va_G) (κ a : Nat → Nat) (ε : Nat) (u : US) (i : Nat) (hi : i < 8) (t : List (Nat × Nat)) (hT : TR u i t) (hO : TO t) (k : Nat) (hk : k < 1000000) : Ct (W0 κ a) l D κ ε yX4_keysBelow cX4_keysBelow 4 (some .int) 0 0 0 0 u [.ref (a (30 + 3 * i)), .int (iI (k : Int))] (fun v u' => v = some (.int (iI (bw t k : Int))) ∧ u' = u) := by
  obtain ⟨hs, hp, hlen, hsm⟩ := id hO
  have hbl := bw_le t k
  refine Ct.of (own := RX4) rfl (by decide +kernel) (Nat.le_of_ble_eq_true rfl) rfl (fun Γ h => ?_)
  refine w_iconst h (pc := 0) dX4_keysBelow_0 ?_
  refine w_istore_n h (pc := 1) dX4_keysBelow_1 (by decide) ?_
  refine w_sipush h (pc := 2) dX4_keysBelow_2 (by decide) ?_
  refine w_istore_n h (pc := 5) dX4_keysBelow_5 (by decide) ?_
  have lp6 : ∀ (n s at' : Nat), s < n → ((s = 0 ∧ at' = bw t k) ∨ ((s = 512 ∨ s = 256 ∨ s = 128 ∨ s = 64 ∨ s = 32 ∨ s = 16 ∨ s = 8 ∨ s = 4 ∨ s = 2 ∨ s = 1) ∧ at' ≤ bw t k ∧ bw t k < at' + 2 * s)) → WW Γ 4 u 6 [(0, .ref (a (30 + 3 * i))), (1, .int (iI (k : Int))), (2, .int (iI (at' : Int))), (3, .int (iI (s : Int)))] [] := by
    intro n9
    induction n9 with
    | zero => intro s at' hn hI; exfalso; omega
    | succ n9 ih =>
      intro s at' hn hI
      refine w_iload_n h (pc := 6) dX4_keysBelow_6 rfl ?_
      refine w_if_le h (pc := 7) (tgt := 45) dX4_keysBelow_7 (by decide) (by omega) (fun c7 => ?_) (fun c7 => ?_)
      · refine w_iload_n h (pc := 45) dX4_keysBelow_45 rfl ?_
        exact w_iret h (pc := 46) (ty := .int) rfl rfl dX4_keysBelow_46 (Nat.le_of_ble_eq_true rfl) (Nat.le_of_ble_eq_true rfl) ⟨by have e : at' = bw t k := (by omega); rw [e], rfl⟩
      · refine w_iload_n h (pc := 10) dX4_keysBelow_10 rfl ?_
        refine w_iload_n h (pc := 11) dX4_keysBelow_11 rfl ?_
        refine w_iadd h (pc := 12) dX4_keysBelow_12 ?_
        refine w_aload_n h (pc := 13) dX4_keysBelow_13 rfl ?_
        refine gT_size h (pc := 14) (by omega) hT.1 wm_53 dX4_keysBelow_14 ?_
        refine w_icmp_gt h (pc := 17) (tgt := 38) dX4_keysBelow_17 (by decide) (by omega) (by omega) (fun c17 => ?_) (fun c17 => ?_)
        · refine w_iload_n h (pc := 38) dX4_keysBelow_38 rfl ?_
          refine w_iconst h (pc := 39) dX4_keysBelow_39 ?_
          refine w_idiv h (pc := 40) dX4_keysBelow_40 (by omega) (by omega) ?_
          refine w_istore_n h (pc := 41) dX4_keysBelow_41 (by decide) ?_
          refine w_goto h (pc := 42) (tgt := 6) dX4_keysBelow_42 (by decide) ?_
          first | exact WW.sub (by rfl) (ih (s / 2) at' (by omega) (by omega)) | exact WW.sub (by rfl) (ih (s / 2) (at' + s) (by omega) (by omega))
        · refine w_aload_n h (pc := 20) dX4_keysBelow_20 rfl ?_
          refine gT_keys h (pc := 21) (by omega) wm_51 dX4_keysBelow_21 ?_
          have hlt : at' + s - 1 < t.length := by omega
          obtain ⟨b, hb⟩ := getN hlt
          have hbk := bw_at (k := k) hs hb
          have hv := (hT.2 _ b hb).1
          have hbb := (TO.at hO hb).1
          have hix : ((at' : Int) + (s : Int) - 1).toNat = at' + s - 1 := by omega
          refine w_iload_n h (pc := 24) dX4_keysBelow_24 rfl ?_
          refine w_iload_n h (pc := 25) dX4_keysBelow_25 rfl ?_
          refine w_iadd h (pc := 26) dX4_keysBelow_26 ?_
          refine w_iconst h (pc := 27) dX4_keysBelow_27 ?_
          refine w_isub h (pc := 28) dX4_keysBelow_28 ?_
          refine ld_keys h (pc := 29) (by omega) (by omega) ((congrArg _ hix).trans hv) dX4_keysBelow_29 ?_
          refine w_iload_n h (pc := 30) dX4_keysBelow_30 rfl ?_
          refine w_icmp_ge h (pc := 31) (tgt := 38) dX4_keysBelow_31 (by decide) (by omega) (by omega) (fun c31 => ?_) (fun c31 => ?_)
          · refine w_iload_n h (pc := 38) dX4_keysBelow_38 rfl ?_
            refine w_iconst h (pc := 39) dX4_keysBelow_39 ?_
            refine w_idiv h (pc := 40) dX4_keysBelow_40 (by omega) (by omega) ?_
            refine w_istore_n h (pc := 41) dX4_keysBelow_41 (by decide) ?_
            refine w_goto h (pc := 42) (tgt := 6) dX4_keysBelow_42 (by decide) ?_
            first | exact WW.sub (by rfl) (ih (s / 2) at' (by omega) (by omega)) | exact WW.sub (by rfl) (ih (s / 2) (at' + s) (by omega) (by omega))
          · refine w_iload_n h (pc := 34) dX4_keysBelow_34 rfl ?_
            refine w_iload_n h (pc := 35) dX4_keysBelow_35 rfl ?_
            refine w_iadd h (pc := 36) dX4_keysBelow_36 ?_
            refine w_istore_n h (pc := 37) dX4_keysBelow_37 (by decide) ?_
            refine w_iload_n h (pc := 38) dX4_keysBelow_38 rfl ?_
            refine w_iconst h (pc := 39) dX4_keysBelow_39 ?_
            refine w_idiv h (pc := 40) dX4_keysBelow_40 (by omega) (by omega) ?_
            refine w_istore_n h (pc := 41) dX4_keysBelow_41 (by decide) ?_
            refine w_goto h (pc := 42) (tgt := 6) dX4_keysBelow_42 (by decide) ?_
            first | exact WW.sub (by rfl) (ih (s / 2) at' (by omega) (by omega)) | exact WW.sub (by rfl) (ih (s / 2) (at' + s) (by omega) (by omega))
  exact WW.sub (by rfl) (lp6 513 512 0 (by omega) (Or.inr ⟨Or.inl rfl, by omega, by omega⟩))

set_option maxHeartbeats 4000000 in
set_option maxRecDepth 100000 in
theorem mX4_standsAt (l : Launch) (D : va_G) (κ a : Nat → Nat) (ε : Nat) (u : US) (i : Nat) (hi : i < 8) (t : List (Nat × Nat)) (hT : TR u i t) (hO : TO t) (k : Nat) (hk : k < 1000000) : Ct (W0 κ a) l D κ ε yX4_standsAt cX4_standsAt 3 (some .boolean) 0 0 0 0 u [.ref (a (30 + 3 * i)), .int (iI (bw t k : Int)), .int (iI (k : Int))] (fun v u' => v = some (.int (iI (if 0 < gt t k then 1 else 0))) ∧ u' = u) := by
  obtain ⟨hs, hp, hlen, hsm⟩ := id hO
  have hbl := bw_le t k
  obtain ⟨hg1, hg2⟩ := gt_at (k := k) hs hp
  refine Ct.of (own := RX4) rfl (by decide +kernel) (Nat.le_of_ble_eq_true rfl) rfl (fun Γ h => ?_)
  refine w_iload_n h (pc := 0) dX4_standsAt_0 rfl ?_
  refine w_aload_n h (pc := 1) dX4_standsAt_1 rfl ?_
  refine gT_size h (pc := 2) (by omega) hT.1 wm_53 dX4_standsAt_2 ?_
  refine w_icmp_ge h (pc := 5) (tgt := 22) dX4_standsAt_5 (by decide) (by omega) (by omega) (fun c5 => ?_) (fun c5 => ?_)
  · have hg : ¬ 0 < gt t k := by
      intro q
      have h1 := hg1 q
      have h2 := (List.getElem?_eq_some_iff.mp h1).1
      first
      | omega
      | (rw [hb] at h1; cases h1; omega)
    refine w_iconst h (pc := 22) dX4_standsAt_22 ?_
    exact w_iret h (pc := 23) (ty := .boolean) rfl rfl dX4_standsAt_23 (Nat.le_of_ble_eq_true rfl) (Nat.le_of_ble_eq_true rfl) ⟨by first | rw [if_pos hg] | rw [if_neg hg], rfl⟩
  · have hlt : bw t k < t.length := by omega
    obtain ⟨b, hb⟩ := getN hlt
    have hv := (hT.2 _ b hb).1
    have hbb := (TO.at hO hb).1
    refine w_aload_n h (pc := 8) dX4_standsAt_8 rfl ?_
    refine gT_keys h (pc := 9) (by omega) wm_51 dX4_standsAt_9 ?_
    refine w_iload_n h (pc := 12) dX4_standsAt_12 rfl ?_
    refine ld_keys h (pc := 13) (by omega) (by omega) hv dX4_standsAt_13 ?_
    refine w_iload_n h (pc := 14) dX4_standsAt_14 rfl ?_
    refine w_icmp_ne h (pc := 15) (tgt := 22) dX4_standsAt_15 (by decide) (by omega) (by omega) (fun c15 => ?_) (fun c15 => ?_)
    · have hg : ¬ 0 < gt t k := by
        intro q
        have h1 := hg1 q
        have h2 := (List.getElem?_eq_some_iff.mp h1).1
        first
        | omega
        | (rw [hb] at h1; cases h1; omega)
      refine w_iconst h (pc := 22) dX4_standsAt_22 ?_
      exact w_iret h (pc := 23) (ty := .boolean) rfl rfl dX4_standsAt_23 (Nat.le_of_ble_eq_true rfl) (Nat.le_of_ble_eq_true rfl) ⟨by first | rw [if_pos hg] | rw [if_neg hg], rfl⟩
    · have hg : 0 < gt t k := by
        rcases Nat.lt_or_ge 0 (gt t k) with q | q
        · exact q
        · exact absurd (show b.1 = k by omega) (hg2 (by omega) b hb)
      refine w_iconst h (pc := 18) dX4_standsAt_18 ?_
      refine w_goto h (pc := 19) (tgt := 23) dX4_standsAt_19 (by decide) ?_
      exact w_iret h (pc := 23) (ty := .boolean) rfl rfl dX4_standsAt_23 (Nat.le_of_ble_eq_true rfl) (Nat.le_of_ble_eq_true rfl) ⟨by first | rw [if_pos hg] | rw [if_neg hg], rfl⟩

set_option maxHeartbeats 4000000 in
set_option maxRecDepth 100000 in
theorem mX4_numberOf (l : Launch) (D : va_G) (κ a : Nat → Nat) (ε : Nat) (u : US) (i : Nat) (hi : i < 8) (t : List (Nat × Nat)) (hT : TR u i t) (hO : TO t) (k : Nat) (hk : k < 1000000) : Ct (W0 κ a) l D κ ε yX4_numberOf cX4_numberOf 3 (some .int) 1 23 0 0 u [.ref (a (30 + 3 * i)), .int (iI (k : Int))] (fun v u' => v = some (.int (iI (gt t k : Int))) ∧ u' = u) := by
  obtain ⟨hs, hp, hlen, hsm⟩ := id hO
  have hbl := bw_le t k
  obtain ⟨hg1, hg2⟩ := gt_at (k := k) hs hp
  refine Ct.of (own := RX4) rfl (by decide +kernel) (Nat.le_of_ble_eq_true rfl) rfl (fun Γ h => ?_)
  refine w_aload_n h (pc := 0) dX4_numberOf_0 rfl ?_
  refine w_iload_n h (pc := 1) dX4_numberOf_1 rfl ?_
  refine w_callV1 h (pc := 2) (mX4_keysBelow l D κ a ε u i hi t hT hO k hk) _ (ws_T (by omega)) rfl (gdV wm_192 wm_193 wm_194 wm_47 wm_195) (by decide +kernel) ⟨(Nat.le_of_ble_eq_true rfl), (Nat.le_of_ble_eq_true rfl)⟩ ⟨(Nat.le_of_ble_eq_true rfl), (Nat.le_of_ble_eq_true rfl)⟩ (fun _ _ _ => ⟨rfl, rfl⟩) (Nat.le_of_ble_eq_true rfl) dX4_numberOf_2 (fun v u1 hp1 => ?_)
  obtain ⟨rfl, rfl⟩ := hp1
  simp only [Option.toList_some, List.cons_append, List.nil_append]
  refine w_istore_n h (pc := 5) dX4_numberOf_5 (by decide) ?_
  refine w_aload_n h (pc := 6) dX4_numberOf_6 rfl ?_
  refine w_iload_n h (pc := 7) dX4_numberOf_7 rfl ?_
  refine w_iload_n h (pc := 8) dX4_numberOf_8 rfl ?_
  refine w_callV2 h (pc := 9) (mX4_standsAt l D κ a ε u1 i hi t hT hO k hk) _ (ws_T (by omega)) rfl (gdV wm_196 wm_197 wm_198 wm_47 wm_199) (by decide +kernel) ⟨(Nat.le_of_ble_eq_true rfl), (Nat.le_of_ble_eq_true rfl)⟩ ⟨(Nat.le_of_ble_eq_true rfl), (Nat.le_of_ble_eq_true rfl)⟩ (fun _ _ _ => ⟨rfl, rfl⟩) (Nat.le_of_ble_eq_true rfl) dX4_numberOf_9 (fun v u2 hp2 => ?_)
  obtain ⟨rfl, rfl⟩ := hp2
  simp only [Option.toList_some, List.cons_append, List.nil_append]
  refine w_if_eq h (pc := 12) (tgt := 24) dX4_numberOf_12 (by decide) (by split <;> omega) (fun c12 => ?_) (fun c12 => ?_)
  · have hg : ¬ 0 < gt t k := by
      intro q
      rw [if_pos q] at c12
      omega
    have hz : gt t k = 0 := by omega
    refine w_iconst h (pc := 24) dX4_numberOf_24 ?_
    exact w_iret h (pc := 25) (ty := .int) rfl rfl dX4_numberOf_25 (Nat.le_of_ble_eq_true rfl) (Nat.le_of_ble_eq_true rfl) ⟨by first | rfl | (rw [hz]; rfl), rfl⟩
  · have hg : 0 < gt t k := by
      rcases Nat.lt_or_ge 0 (gt t k) with q | q
      · exact q
      · rw [if_neg (by omega)] at c12; omega
    have hb := hg1 hg
    have hlt := (List.getElem?_eq_some_iff.mp hb).1
    have hv := (hT.2 _ _ hb).2
    refine w_aload_n h (pc := 15) dX4_numberOf_15 rfl ?_
    refine gT_counts h (pc := 16) (by omega) wm_52 dX4_numberOf_16 ?_
    refine w_iload_n h (pc := 19) dX4_numberOf_19 rfl ?_
    refine ld_counts h (pc := 20) (by omega) (by omega) hv dX4_numberOf_20 ?_
    refine w_goto h (pc := 21) (tgt := 25) dX4_numberOf_21 (by decide) ?_
    exact w_iret h (pc := 25) (ty := .int) rfl rfl dX4_numberOf_25 (Nat.le_of_ble_eq_true rfl) (Nat.le_of_ble_eq_true rfl) ⟨by first | rfl | (rw [hz]; rfl), rfl⟩

set_option maxHeartbeats 4000000 in
set_option maxRecDepth 100000 in
theorem mX4_raise (l : Launch) (D : va_G) (κ a : Nat → Nat) (ε : Nat) (u : US) (i : Nat) (hi : i < 8) (t : List (Nat × Nat)) (hT : TR u i t) (hO : TO t) (k : Nat) (hk : k < 1000000) (c : Nat) (hc : 0 < c ∧ c ≤ 1000000) (hroom : t.length < 852) : Ct (W0 κ a) l D κ ε yX4_raise cX4_raise 4 (some .boolean) 1 40 0 0 u [.ref (a (30 + 3 * i)), .int (iI (k : Int)), .int (iI (c : Int))] (fun v u' => v = some (.int (iI (if 0 < gt t k then 0 else 1))) ∧ Fr [12 + i] [31 + 3 * i, 32 + 3 * i] u u' ∧ TR u' i (rs t k c)) := by
  obtain ⟨hs, hp, hlen, hsm⟩ := id hO
  have hbl := bw_le t k
  obtain ⟨hg1, hg2⟩ := gt_at (k := k) hs hp
  refine Ct.of (own := RX4) rfl (by decide +kernel) (Nat.le_of_ble_eq_true rfl) rfl (fun Γ h => ?_)
  refine w_aload_n h (pc := 0) dX4_raise_0 rfl ?_
  refine w_iload_n h (pc := 1) dX4_raise_1 rfl ?_
  refine w_callV1 h (pc := 2) (mX4_keysBelow l D κ a ε u i hi t hT hO k hk) _ (ws_T (by omega)) rfl (gdV wm_192 wm_193 wm_194 wm_47 wm_195) (by decide +kernel) ⟨(Nat.le_of_ble_eq_true rfl), (Nat.le_of_ble_eq_true rfl)⟩ ⟨(Nat.le_of_ble_eq_true rfl), (Nat.le_of_ble_eq_true rfl)⟩ (fun _ _ _ => ⟨rfl, rfl⟩) (Nat.le_of_ble_eq_true rfl) dX4_raise_2 (fun v u1 hp1 => ?_)
  obtain ⟨rfl, rfl⟩ := hp1
  simp only [Option.toList_some, List.cons_append, List.nil_append]
  refine w_istore_n h (pc := 5) dX4_raise_5 (by decide) ?_
  refine w_aload_n h (pc := 6) dX4_raise_6 rfl ?_
  refine w_iload_n h (pc := 7) dX4_raise_7 rfl ?_
  refine w_iload_n h (pc := 8) dX4_raise_8 rfl ?_
  refine w_callV2 h (pc := 9) (mX4_standsAt l D κ a ε u1 i hi t hT hO k hk) _ (ws_T (by omega)) rfl (gdV wm_196 wm_197 wm_198 wm_47 wm_199) (by decide +kernel) ⟨(Nat.le_of_ble_eq_true rfl), (Nat.le_of_ble_eq_true rfl)⟩ ⟨(Nat.le_of_ble_eq_true rfl), (Nat.le_of_ble_eq_true rfl)⟩ (fun _ _ _ => ⟨rfl, rfl⟩) (Nat.le_of_ble_eq_true rfl) dX4_raise_9 (fun v u2 hp2 => ?_)
  obtain ⟨rfl, rfl⟩ := hp2
  simp only [Option.toList_some, List.cons_append, List.nil_append]
  refine w_if_eq h (pc := 12) (tgt := 36) dX4_raise_12 (by decide) (by split <;> omega) (fun c12 => ?_) (fun c12 => ?_)
  · have hg : ¬ 0 < gt t k := by
      intro q
      rw [if_pos q] at c12
      omega
    have hz : gt t k = 0 := by omega
    refine w_aload_n h (pc := 36) dX4_raise_36 rfl ?_
    refine gT_size h (pc := 37) (by omega) hT.1 wm_53 dX4_raise_37 ?_
    refine w_sipush h (pc := 40) dX4_raise_40 (by decide) ?_
    refine w_icmp_lt h (pc := 43) (tgt := 48) dX4_raise_43 (by decide) (by omega) (by omega) (fun c43 => ?_) (fun c43 => by exfalso; omega)
    refine w_aload_n h (pc := 48) dX4_raise_48 rfl ?_
    refine gT_keys h (pc := 49) (by omega) wm_51 dX4_raise_49 ?_
    refine w_iload_n h (pc := 52) dX4_raise_52 rfl ?_
    refine w_aload_n h (pc := 53) dX4_raise_53 rfl ?_
    refine gT_keys h (pc := 54) (by omega) wm_51 dX4_raise_54 ?_
    refine w_iload_n h (pc := 57) dX4_raise_57 rfl ?_
    refine w_iconst h (pc := 58) dX4_raise_58 ?_
    refine w_iadd h (pc := 59) dX4_raise_59 ?_
    refine w_aload_n h (pc := 60) dX4_raise_60 rfl ?_
    refine gT_size h (pc := 61) (by omega) hT.1 wm_53 dX4_raise_61 ?_
    refine w_iload_n h (pc := 64) dX4_raise_64 rfl ?_
    refine w_isub h (pc := 65) dX4_raise_65 ?_
    refine cp_keys h (pc := 66) (by omega) wm_188 (by omega) (by omega) (by omega) (by omega) (by omega) (Nat.le_of_ble_eq_true rfl) (Nat.le_of_ble_eq_true rfl) dX4_raise_66 ?_
    refine w_aload_n h (pc := 69) dX4_raise_69 rfl ?_
    refine gT_counts h (pc := 70) (by omega) wm_52 dX4_raise_70 ?_
    refine w_iload_n h (pc := 73) dX4_raise_73 rfl ?_
    refine w_aload_n h (pc := 74) dX4_raise_74 rfl ?_
    refine gT_counts h (pc := 75) (by omega) wm_52 dX4_raise_75 ?_
    refine w_iload_n h (pc := 78) dX4_raise_78 rfl ?_
    refine w_iconst h (pc := 79) dX4_raise_79 ?_
    refine w_iadd h (pc := 80) dX4_raise_80 ?_
    refine w_aload_n h (pc := 81) dX4_raise_81 rfl ?_
    refine gT_size h (pc := 82) (by omega) hT.1 wm_53 dX4_raise_82 ?_
    refine w_iload_n h (pc := 85) dX4_raise_85 rfl ?_
    refine w_isub h (pc := 86) dX4_raise_86 ?_
    refine cp_counts h (pc := 87) (by omega) wm_188 (by omega) (by omega) (by omega) (by omega) (by omega) (Nat.le_of_ble_eq_true rfl) (Nat.le_of_ble_eq_true rfl) dX4_raise_87 ?_
    refine w_aload_n h (pc := 90) dX4_raise_90 rfl ?_
    refine gT_keys h (pc := 91) (by omega) wm_51 dX4_raise_91 ?_
    refine w_iload_n h (pc := 94) dX4_raise_94 rfl ?_
    refine w_iload_n h (pc := 95) dX4_raise_95 rfl ?_
    refine st_keys h (pc := 96) (by omega) (by omega) dX4_raise_96 ?_
    refine w_aload_n h (pc := 97) dX4_raise_97 rfl ?_
    refine gT_counts h (pc := 98) (by omega) wm_52 dX4_raise_98 ?_
    refine w_iload_n h (pc := 101) dX4_raise_101 rfl ?_
    refine w_iload_n h (pc := 102) dX4_raise_102 rfl ?_
    refine st_counts h (pc := 103) (by omega) (by omega) dX4_raise_103 ?_
    refine w_aload_n h (pc := 104) dX4_raise_104 rfl ?_
    refine w_dup h (pc := 105) dX4_raise_105 rfl ?_
    refine gT_size h (pc := 106) (by omega) hT.1 wm_53 dX4_raise_106 ?_
    refine w_iconst h (pc := 109) dX4_raise_109 ?_
    refine w_iadd h (pc := 110) dX4_raise_110 ?_
    refine pT_size h (pc := 111) (by omega) wm_53 dX4_raise_111 ?_
    refine w_iconst h (pc := 114) dX4_raise_114 ?_
    exact w_iret h (pc := 115) (ty := .boolean) rfl rfl dX4_raise_115 (Nat.le_of_ble_eq_true rfl) (Nat.le_of_ble_eq_true rfl) ⟨by rw [if_neg hg], (((Fr.A (by simp)).tr (Fr.A (by simp))).tr (Fr.A (by simp))).tr ((Fr.A (by simp)).tr (Fr.S (by simp))), by unfold rs; rw [if_neg hg]; exact TR_ins hT (uS_at _ _ _) (by show (uA _ _ _).2 _ = _; rw [uA_ne _ _ (by omega), uA_at, uA_ne _ _ (by omega), uA_at]) (by show (uA _ _ _).2 _ = _; rw [uA_at, uA_ne _ _ (by omega), uA_at, uA_ne _ _ (by omega)]) (by omega) (by omega) (by omega) (by omega) (by omega) (by omega) (by omega) (by omega) rfl rfl⟩
  · have hg : 0 < gt t k := by
      rcases Nat.lt_or_ge 0 (gt t k) with q | q
      · exact q
      · rw [if_neg (by omega)] at c12; omega
    have hb := hg1 hg
    have hlt := (List.getElem?_eq_some_iff.mp hb).1
    have hv := (hT.2 _ _ hb).2
    have hcs := (TO.at hO hb).2.1
    refine w_aload_n h (pc := 15) dX4_raise_15 rfl ?_
    refine gT_counts h (pc := 16) (by omega) wm_52 dX4_raise_16 ?_
    refine w_iload_n h (pc := 19) dX4_raise_19 rfl ?_
    refine w_ldc h (pc := 20) (z := 100000000) dX4_raise_20 wm_186 (by decide) ?_
    refine w_aload_n h (pc := 22) dX4_raise_22 rfl ?_
    refine gT_counts h (pc := 23) (by omega) wm_52 dX4_raise_23 ?_
    refine w_iload_n h (pc := 26) dX4_raise_26 rfl ?_
    refine ld_counts h (pc := 27) (by omega) (by omega) hv dX4_raise_27 ?_
    refine w_iload_n h (pc := 28) dX4_raise_28 rfl ?_
    refine w_iadd h (pc := 29) dX4_raise_29 ?_
    refine w_imin h (pc := 30) wm_187 wm_124 wm_125 wm_126 (Nat.le_of_ble_eq_true rfl) (Nat.le_of_ble_eq_true rfl) (Nat.le_of_ble_eq_true rfl) (Nat.le_of_ble_eq_true rfl) (by omega) (by omega) (z := ((min 100000000 (gt t k + c) : Nat) : Int)) (by split <;> omega) dX4_raise_30 ?_
    refine st_counts h (pc := 33) (by omega) (by omega) dX4_raise_33 ?_
    refine w_iconst h (pc := 34) dX4_raise_34 ?_
    exact w_iret h (pc := 35) (ty := .boolean) rfl rfl dX4_raise_35 (Nat.le_of_ble_eq_true rfl) (Nat.le_of_ble_eq_true rfl) ⟨by rw [if_pos hg], Fr.A (by simp), by unfold rs; rw [if_pos hg]; exact TR_cst hs hT hb rfl (uA_ne _ _ (by omega)) (uA_at _ _ _) (by omega) rfl⟩

set_option maxHeartbeats 4000000 in
set_option maxRecDepth 100000 in
theorem mX4_removeAt (l : Launch) (D : va_G) (κ a : Nat → Nat) (ε : Nat) (u : US) (i : Nat) (hi : i < 8) (t : List (Nat × Nat)) (k d : Nat) (hO : TO t) (hT : TRx u i t (bw t k)) (hb : t[bw t k]? = some (k, d)) : Ct (W0 κ a) l D κ ε yX4_removeAt cX4_removeAt 2 none 1 40 0 0 u [.ref (a (30 + 3 * i)), .int (iI (bw t k : Int))] (fun v u' => v = none ∧ Fr [12 + i] [31 + 3 * i, 32 + 3 * i] u u' ∧ TR u' i (del t k)) := by
  obtain ⟨hs, hp, hlen, hsm⟩ := id hO
  have hbl := bw_le t k
  have hlt := (List.getElem?_eq_some_iff.mp hb).1
  refine Ct.of (own := RX4) rfl (by decide +kernel) (Nat.le_of_ble_eq_true rfl) rfl (fun Γ h => ?_)
  refine w_iload_n h (pc := 0) dX4_removeAt_0 rfl ?_
  refine w_if_lt h (pc := 1) (tgt := 12) dX4_removeAt_1 (by decide) (by omega) (fun c1 => by exfalso; omega) (fun c1 => ?_)
  refine w_iload_n h (pc := 4) dX4_removeAt_4 rfl ?_
  refine w_aload_n h (pc := 5) dX4_removeAt_5 rfl ?_
  refine gT_size h (pc := 6) (by omega) hT.1 wm_53 dX4_removeAt_6 ?_
  refine w_icmp_lt h (pc := 9) (tgt := 13) dX4_removeAt_9 (by decide) (by omega) (by omega) (fun c9 => ?_) (fun c9 => by exfalso; omega)
  refine w_aload_n h (pc := 13) dX4_removeAt_13 rfl ?_
  refine gT_keys h (pc := 14) (by omega) wm_51 dX4_removeAt_14 ?_
  refine w_iload_n h (pc := 17) dX4_removeAt_17 rfl ?_
  refine w_iconst h (pc := 18) dX4_removeAt_18 ?_
  refine w_iadd h (pc := 19) dX4_removeAt_19 ?_
  refine w_aload_n h (pc := 20) dX4_removeAt_20 rfl ?_
  refine gT_keys h (pc := 21) (by omega) wm_51 dX4_removeAt_21 ?_
  refine w_iload_n h (pc := 24) dX4_removeAt_24 rfl ?_
  refine w_aload_n h (pc := 25) dX4_removeAt_25 rfl ?_
  refine gT_size h (pc := 26) (by omega) hT.1 wm_53 dX4_removeAt_26 ?_
  refine w_iload_n h (pc := 29) dX4_removeAt_29 rfl ?_
  refine w_isub h (pc := 30) dX4_removeAt_30 ?_
  refine w_iconst h (pc := 31) dX4_removeAt_31 ?_
  refine w_isub h (pc := 32) dX4_removeAt_32 ?_
  refine cp_keys h (pc := 33) (by omega) wm_188 (by omega) (by omega) (by omega) (by omega) (by omega) (Nat.le_of_ble_eq_true rfl) (Nat.le_of_ble_eq_true rfl) dX4_removeAt_33 ?_
  refine w_aload_n h (pc := 36) dX4_removeAt_36 rfl ?_
  refine gT_counts h (pc := 37) (by omega) wm_52 dX4_removeAt_37 ?_
  refine w_iload_n h (pc := 40) dX4_removeAt_40 rfl ?_
  refine w_iconst h (pc := 41) dX4_removeAt_41 ?_
  refine w_iadd h (pc := 42) dX4_removeAt_42 ?_
  refine w_aload_n h (pc := 43) dX4_removeAt_43 rfl ?_
  refine gT_counts h (pc := 44) (by omega) wm_52 dX4_removeAt_44 ?_
  refine w_iload_n h (pc := 47) dX4_removeAt_47 rfl ?_
  refine w_aload_n h (pc := 48) dX4_removeAt_48 rfl ?_
  refine gT_size h (pc := 49) (by omega) hT.1 wm_53 dX4_removeAt_49 ?_
  refine w_iload_n h (pc := 52) dX4_removeAt_52 rfl ?_
  refine w_isub h (pc := 53) dX4_removeAt_53 ?_
  refine w_iconst h (pc := 54) dX4_removeAt_54 ?_
  refine w_isub h (pc := 55) dX4_removeAt_55 ?_
  refine cp_counts h (pc := 56) (by omega) wm_188 (by omega) (by omega) (by omega) (by omega) (by omega) (Nat.le_of_ble_eq_true rfl) (Nat.le_of_ble_eq_true rfl) dX4_removeAt_56 ?_
  refine w_aload_n h (pc := 59) dX4_removeAt_59 rfl ?_
  refine w_dup h (pc := 60) dX4_removeAt_60 rfl ?_
  refine gT_size h (pc := 61) (by omega) hT.1 wm_53 dX4_removeAt_61 ?_
  refine w_iconst h (pc := 64) dX4_removeAt_64 ?_
  refine w_isub h (pc := 65) dX4_removeAt_65 ?_
  refine pT_size h (pc := 66) (by omega) wm_53 dX4_removeAt_66 ?_
  exact w_vret h (pc := 69) rfl dX4_removeAt_69 (Nat.le_of_ble_eq_true rfl) (Nat.le_of_ble_eq_true rfl) ⟨rfl, ((Fr.A (by simp)).tr (Fr.A (by simp))).tr (Fr.S (by simp)), TR_del hs hT hb (uS_at _ _ _) (by show (uA _ _ _).2 _ = _; rw [uA_ne _ _ (by omega), uA_at]) (by show (uA _ _ _).2 _ = _; rw [uA_at, uA_ne _ _ (by omega)]) (by omega) (by omega) (by omega) (by omega) (by omega) (by omega)⟩

set_option maxHeartbeats 4000000 in
set_option maxRecDepth 100000 in
theorem mX4_lower (l : Launch) (D : va_G) (κ a : Nat → Nat) (ε : Nat) (u : US) (i : Nat) (hi : i < 8) (t : List (Nat × Nat)) (hT : TR u i t) (hO : TO t) (k : Nat) (hk : k < 1000000) (c : Nat) (hc : 0 < c ∧ c ≤ 1000000) : Ct (W0 κ a) l D κ ε yX4_lower cX4_lower 4 (some .boolean) 2 61 0 0 u [.ref (a (30 + 3 * i)), .int (iI (k : Int)), .int (iI (c : Int))] (fun v u' => v = some (.int (iI (if 0 < gt t k ∧ gt t k ≤ c then 1 else 0))) ∧ Fr [12 + i] [31 + 3 * i, 32 + 3 * i] u u' ∧ TR u' i (lw t k c)) := by
  obtain ⟨hs, hp, hlen, hsm⟩ := id hO
  have hbl := bw_le t k
  obtain ⟨hg1, hg2⟩ := gt_at (k := k) hs hp
  refine Ct.of (own := RX4) rfl (by decide +kernel) (Nat.le_of_ble_eq_true rfl) rfl (fun Γ h => ?_)
  refine w_aload_n h (pc := 0) dX4_lower_0 rfl ?_
  refine w_iload_n h (pc := 1) dX4_lower_1 rfl ?_
  refine w_callV1 h (pc := 2) (mX4_keysBelow l D κ a ε u i hi t hT hO k hk) _ (ws_T (by omega)) rfl (gdV wm_192 wm_193 wm_194 wm_47 wm_195) (by decide +kernel) ⟨(Nat.le_of_ble_eq_true rfl), (Nat.le_of_ble_eq_true rfl)⟩ ⟨(Nat.le_of_ble_eq_true rfl), (Nat.le_of_ble_eq_true rfl)⟩ (fun _ _ _ => ⟨rfl, rfl⟩) (Nat.le_of_ble_eq_true rfl) dX4_lower_2 (fun v u1 hp1 => ?_)
  obtain ⟨rfl, rfl⟩ := hp1
  simp only [Option.toList_some, List.cons_append, List.nil_append]
  refine w_istore_n h (pc := 5) dX4_lower_5 (by decide) ?_
  refine w_aload_n h (pc := 6) dX4_lower_6 rfl ?_
  refine w_iload_n h (pc := 7) dX4_lower_7 rfl ?_
  refine w_iload_n h (pc := 8) dX4_lower_8 rfl ?_
  refine w_callV2 h (pc := 9) (mX4_standsAt l D κ a ε u1 i hi t hT hO k hk) _ (ws_T (by omega)) rfl (gdV wm_196 wm_197 wm_198 wm_47 wm_199) (by decide +kernel) ⟨(Nat.le_of_ble_eq_true rfl), (Nat.le_of_ble_eq_true rfl)⟩ ⟨(Nat.le_of_ble_eq_true rfl), (Nat.le_of_ble_eq_true rfl)⟩ (fun _ _ _ => ⟨rfl, rfl⟩) (Nat.le_of_ble_eq_true rfl) dX4_lower_9 (fun v u2 hp2 => ?_)
  obtain ⟨rfl, rfl⟩ := hp2
  simp only [Option.toList_some, List.cons_append, List.nil_append]
  refine w_if_ne h (pc := 12) (tgt := 17) dX4_lower_12 (by decide) (by split <;> omega) (fun c12 => ?_) (fun c12 => ?_)
  · have hg : 0 < gt t k := by
      rcases Nat.lt_or_ge 0 (gt t k) with q | q
      · exact q
      · rw [if_neg (by omega)] at c12; omega
    have hb := hg1 hg
    have hlt := (List.getElem?_eq_some_iff.mp hb).1
    have hv := (hT.2 _ _ hb).2
    have hcs := (TO.at hO hb).2.1
    refine w_aload_n h (pc := 17) dX4_lower_17 rfl ?_
    refine gT_counts h (pc := 18) (by omega) wm_52 dX4_lower_18 ?_
    refine w_iload_n h (pc := 21) dX4_lower_21 rfl ?_
    refine w_dup2 h (pc := 22) dX4_lower_22 rfl rfl ?_
    refine ld_counts h (pc := 23) (by omega) (by omega) hv dX4_lower_23 ?_
    refine w_iload_n h (pc := 24) dX4_lower_24 rfl ?_
    refine w_isub h (pc := 25) dX4_lower_25 ?_
    refine st_counts h (pc := 26) (by omega) (by omega) dX4_lower_26 ?_
    refine w_aload_n h (pc := 27) dX4_lower_27 rfl ?_
    have hv2 : (uA u2 (32 + 3 * i) (upI (u2.2 (32 + 3 * i)) (bw t k : Int).toNat ((gt t k : Int) - (c : Int)))).2 (32 + 3 * i) (bw t k : Int).toNat = (gt t k : Int) - (c : Int) := by rw [uA_at]; exact if_pos rfl
    refine gT_counts h (pc := 28) (by omega) wm_52 dX4_lower_28 ?_
    refine w_iload_n h (pc := 31) dX4_lower_31 rfl ?_
    refine ld_counts h (pc := 32) (by omega) (by omega) hv2 dX4_lower_32 ?_
    refine w_if_le h (pc := 33) (tgt := 38) dX4_lower_33 (by decide) (by omega) (fun c33 => ?_) (fun c33 => ?_)
    · refine w_aload_n h (pc := 38) dX4_lower_38 rfl ?_
      refine w_iload_n h (pc := 39) dX4_lower_39 rfl ?_
      refine w_callV1 h (pc := 40) (mX4_removeAt l D κ a ε _ i hi t k (gt t k) hO (TRx_up hT rfl (uA_ne _ _ (by omega)) (uA_at _ _ _) (by omega)) hb) _ (ws_T (by omega)) rfl (gdV wm_216 wm_217 wm_218 wm_47 wm_219) (by decide +kernel) ⟨(Nat.le_of_ble_eq_true rfl), (Nat.le_of_ble_eq_true rfl)⟩ ⟨(Nat.le_of_ble_eq_true rfl), (Nat.le_of_ble_eq_true rfl)⟩ (fun _ _ _ => ⟨rfl, rfl⟩) (Nat.le_of_ble_eq_true rfl) dX4_lower_40 (fun v u3 hp3 => ?_)
      obtain ⟨rfl, hF3, hT3⟩ := hp3
      simp only [Option.toList_none, List.nil_append]
      refine w_iconst h (pc := 43) dX4_lower_43 ?_
      exact w_iret h (pc := 44) (ty := .boolean) rfl rfl dX4_lower_44 (Nat.le_of_ble_eq_true rfl) (Nat.le_of_ble_eq_true rfl) ⟨by rw [if_pos (by omega)], (Fr.A (by simp)).tr hF3, by unfold lw; rw [if_neg (by omega)]; exact hT3⟩
    · refine w_iconst h (pc := 36) dX4_lower_36 ?_
      exact w_iret h (pc := 37) (ty := .boolean) rfl rfl dX4_lower_37 (Nat.le_of_ble_eq_true rfl) (Nat.le_of_ble_eq_true rfl) ⟨by rw [if_neg (by omega)], Fr.A (by simp), by unfold lw; rw [if_pos (by omega)]; exact TR_cst hs hT hb rfl (uA_ne _ _ (by omega)) (uA_at _ _ _) (by omega) (by omega)⟩
  · have hg : ¬ 0 < gt t k := by
      intro q
      rw [if_pos q] at c12
      omega
    have hz : gt t k = 0 := by omega
    refine w_iconst h (pc := 15) dX4_lower_15 ?_
    exact w_iret h (pc := 16) (ty := .boolean) rfl rfl dX4_lower_16 (Nat.le_of_ble_eq_true rfl) (Nat.le_of_ble_eq_true rfl) ⟨by rw [if_neg (by omega)], Fr.rfl, by unfold lw; rw [if_neg (by omega), del_none (gt_none hs hp hg)]; exact hT⟩
end
section
/-! the eight tallies: 0 .. 3 counted, 4 .. 7 varied -/
def tS : List Nat := [12, 13, 14, 15, 16, 17, 18, 19]
def tG : List Nat := [31, 32, 34, 35, 37, 38, 40, 41, 43, 44, 46, 47, 49, 50, 52, 53]
/-- a tally that is in order, with V words, behind m raises by at most 4 -/
def TV (V m : Nat) (t : List (Nat × Nat)) : Prop := So t ∧ Po t ∧ t.length ≤ m ∧ ∀ b ∈ t, b.1 < 38416 ∧ 1 ≤ b.1 % 14 ∧ b.1 % 14 ≤ V + 1 ∧ b.2 ≤ 4 * m
def TA (V m : Nat) (u : US) (T : Nat → List (Nat × Nat)) : Prop := ∀ i, i < 8 → TR u i (T i) ∧ TV V m (T i)
theorem TV.O {V m : Nat} {t : List (Nat × Nat)} (h : TV V m t) (hm : m ≤ 800) : TO t := ⟨h.1, h.2.1, by have := h.2.2.1; omega, fun b hb => by have := h.2.2.2 b hb; omega⟩
theorem TV.nil (V m : Nat) : TV V m [] := ⟨trivial, fun b hb => absurd hb List.not_mem_nil, Nat.zero_le _, fun b hb => absurd hb List.not_mem_nil⟩
theorem TV.mono {V m m' : Nat} {t : List (Nat × Nat)} (h : TV V m t) (hm : m ≤ m') : TV V m' t := ⟨h.1, h.2.1, Nat.le_trans h.2.2.1 hm, fun b hb => by have := h.2.2.2 b hb; omega⟩
theorem gt_le {t : List (Nat × Nat)} {k B : Nat} (h : ∀ b ∈ t, b.2 ≤ B) : gt t k ≤ B := by
  rcases Nat.lt_or_ge 0 (gt t k) with q | q
  · obtain ⟨b, hb, -, e⟩ := gt_has q
    rw [← e]; exact h b hb
  · omega
theorem TV.rs {V m k c : Nat} {t : List (Nat × Nat)} (h : TV V m t) (hk : k < 38416) (hd : 1 ≤ k % 14 ∧ k % 14 ≤ V + 1) (hc : 0 < c ∧ c ≤ 4) : TV V (m + 1) (rs t k c) := by
  have hg : gt t k ≤ 4 * m := gt_le fun b hb => (h.2.2.2 b hb).2.2.2
  refine ⟨rs_So h.1 h.2.1, rs_Po h.2.1 hc.1, Nat.le_trans rs_len (by have := h.2.2.1; omega), fun b hb => ?_⟩
  rcases rs_mem hb with e | e | e
  · subst e
    refine ⟨hk, hd.1, hd.2, ?_⟩
    show min _ _ ≤ _
    omega
  · subst e
    refine ⟨hk, hd.1, hd.2, ?_⟩
    show c ≤ _
    omega
  · have := h.2.2.2 b e
    omega
theorem TV.lw {V m k c : Nat} {t : List (Nat × Nat)} (h : TV V m t) : TV V m (lw t k c) := by
  have hg : gt t k ≤ 4 * m := gt_le fun b hb => (h.2.2.2 b hb).2.2.2
  refine ⟨lw_So h.1, lw_Po h.2.1, Nat.le_trans lw_len h.2.2.1, fun b hb => ?_⟩
  rcases lw_mem hb with ⟨e, q⟩ | e
  · obtain ⟨b', h1, h2, h3⟩ := gt_has (l := t) (k := k) (by omega)
    have := h.2.2.2 b' h1
    subst e
    rw [h2] at this
    refine ⟨this.1, this.2.1, this.2.2.1, ?_⟩
    show gt t k - c ≤ _
    omega
  · exact h.2.2.2 b e
theorem TV.del {V m k : Nat} {t : List (Nat × Nat)} (h : TV V m t) : TV V m (del t k) := by
  refine ⟨del_So h.1, fun b hb => h.2.1 b (del_mem hb), ?_, fun b hb => h.2.2.2 b (del_mem hb)⟩
  by_cases q : ∃ b ∈ t, b.1 = k
  · have := del_len q
    have := h.2.2.1
    omega
  · rw [del_none fun b hb e => q ⟨b, hb, e⟩]
    exact h.2.2.1
theorem Fr.t {i : Nat} (hi : i < 8) {u u' : US} (h : Fr [12 + i] [31 + 3 * i, 32 + 3 * i] u u') : Fr tS tG u u' := by
  refine h.mono (fun k hk => ?_) (fun k hk => ?_)
  · simp only [tS, List.mem_cons, List.not_mem_nil, or_false] at hk ⊢
    omega
  · simp only [tG, List.mem_cons, List.not_mem_nil, or_false] at hk ⊢
    omega
theorem TR.fr {i j : Nat} {u u' : US} {t : List (Nat × Nat)} (h : TR u j t) (hij : j ≠ i) (hF : Fr [12 + i] [31 + 3 * i, 32 + 3 * i] u u') : TR u' j t := by
  refine ⟨by rw [hF.1 (12 + j) (by simp; omega)]; exact h.1, fun q b hb => ?_⟩
  rw [hF.2 (31 + 3 * j) (by simp; omega), hF.2 (32 + 3 * j) (by simp; omega)]
  exact h.2 q b hb
theorem TR.of {j : Nat} (hj : j < 8) {u u' : US} {t : List (Nat × Nat)} {ls gs : List Nat} (h : TR u j t) (hF : Fr ls gs u u') (h1 : ∀ k, k ∈ tS → k ∉ ls) (h2 : ∀ k, k ∈ tG → k ∉ gs) : TR u' j t := by
  have e1 : 12 + j ∈ tS := by simp only [tS, List.mem_cons, List.not_mem_nil, or_false]; omega
  have e2 : 31 + 3 * j ∈ tG := by simp only [tG, List.mem_cons, List.not_mem_nil, or_false]; omega
  have e3 : 32 + 3 * j ∈ tG := by simp only [tG, List.mem_cons, List.not_mem_nil, or_false]; omega
  refine ⟨by rw [hF.1 _ (h1 _ e1)]; exact h.1, fun q b hb => ?_⟩
  rw [hF.2 _ (h2 _ e2), hF.2 _ (h2 _ e3)]
  exact h.2 q b hb
theorem TA.of {V m : Nat} {u u' : US} {T : Nat → List (Nat × Nat)} {ls gs : List Nat} (h : TA V m u T) (hF : Fr ls gs u u') (h1 : ∀ k, k ∈ tS → k ∉ ls) (h2 : ∀ k, k ∈ tG → k ∉ gs) : TA V m u' T := fun i hi => ⟨(h i hi).1.of hi hF h1 h2, (h i hi).2⟩
def upT (T : Nat → List (Nat × Nat)) (i : Nat) (t : List (Nat × Nat)) : Nat → List (Nat × Nat) := fun j => if j = i then t else T j
theorem TA.set {V m m' i : Nat} {u u' : US} {T : Nat → List (Nat × Nat)} {t : List (Nat × Nat)} (h : TA V m u T) (hF : Fr [12 + i] [31 + 3 * i, 32 + 3 * i] u u') (hT : TR u' i t) (hV : TV V m' t) (hm : m ≤ m') : TA V m' u' (upT T i t) := by
  intro j hj
  unfold upT
  by_cases e : j = i
  · rw [if_pos e]; subst e; exact ⟨hT, hV⟩
  · rw [if_neg e]
    exact ⟨(h j hj).1.fr e hF, (h j hj).2.mono hm⟩
theorem TA.mono {V m m' : Nat} {u : US} {T : Nat → List (Nat × Nat)} (h : TA V m u T) (hm : m ≤ m') : TA V m' u T := fun i hi => ⟨(h i hi).1, (h i hi).2.mono hm⟩
theorem upT_at (T : Nat → List (Nat × Nat)) (i : Nat) (t : List (Nat × Nat)) : upT T i t i = t := if_pos rfl
theorem upT_ne (T : Nat → List (Nat × Nat)) {i j : Nat} (t : List (Nat × Nat)) (h : j ≠ i) : upT T i t j = T j := if_neg h
theorem So.idx {t : List (Nat × Nat)} {j : Nat} {b : Nat × Nat} (hs : So t) (hb : t[j]? = some b) : bw t b.1 = j := by
  have h1 := bw_at (k := b.1) hs hb
  have h2 := hs.there (List.mem_of_getElem? hb)
  rcases Nat.lt_trichotomy (bw t b.1) j with q | q | q
  · obtain ⟨hj, e⟩ := List.getElem?_eq_some_iff.mp hb
    obtain ⟨hj2, e2⟩ := List.getElem?_eq_some_iff.mp h2
    have := So_lt hs q hj
    rw [e, e2] at this
    omega
  · exact q
  · omega
/-- the powers of 14 -/
def p14 (n : Nat) : Nat := 14 ^ n
theorem pw_p14 {n : Nat} (h : n < 5) : pw n = (p14 n : Int) := by
  rcases (by omega : n = 0 ∨ n = 1 ∨ n = 2 ∨ n = 3 ∨ n = 4) with rfl | rfl | rfl | rfl | rfl <;> rfl
theorem p14_cs {n : Nat} (h : n < 5) : (n = 0 ∧ p14 n = 1) ∨ (n = 1 ∧ p14 n = 14) ∨ (n = 2 ∧ p14 n = 196) ∨ (n = 3 ∧ p14 n = 2744) ∨ (n = 4 ∧ p14 n = 38416) := by
  rcases (by omega : n = 0 ∨ n = 1 ∨ n = 2 ∨ n = 3 ∨ n = 4) with rfl | rfl | rfl | rfl | rfl <;> simp [p14]
theorem vk_ok {k n V : Nat} (hn : 1 ≤ n ∧ n < 5) (hk : k < 38416) (hd : 1 ≤ k % 14 ∧ k % 14 ≤ V + 1) : k % p14 n < 38416 ∧ 1 ≤ k % p14 n % 14 ∧ k % p14 n % 14 ≤ V + 1 := by
  have h0 : k % p14 n % 14 = k % 14 := by
    rcases p14_cs hn.2 with ⟨q, e⟩ | ⟨-, e⟩ | ⟨-, e⟩ | ⟨-, e⟩ | ⟨-, e⟩ <;> first | (exfalso; omega) | (rw [e]; omega)
  rw [h0]
  have := Nat.mod_le k (p14 n)
  omega
end
section
theorem dX0_countsOf_0 : decode cX0_countsOf 0 = .ok (.aload_n 0, 1) := by decide +kernel
theorem dX0_countsOf_1 : decode cX0_countsOf 1 = .ok (.getfield 20, 3) := by decide +kernel
theorem dX0_countsOf_4 : decode cX0_countsOf 4 = .ok (.iconst 1, 1) := by decide +kernel
theorem dX0_countsOf_5 : decode cX0_countsOf 5 = .ok (.iload_n 1, 1) := by decide +kernel
theorem dX0_countsOf_6 : decode cX0_countsOf 6 = .ok (.iconst 4, 1) := by decide +kernel
theorem dX0_countsOf_7 : decode cX0_countsOf 7 = .ok (.invokestatic 28, 3) := by decide +kernel
theorem dX0_countsOf_10 : decode cX0_countsOf 10 = .ok (.invokestatic 34, 3) := by decide +kernel
theorem dX0_countsOf_13 : decode cX0_countsOf 13 = .ok (.iconst 1, 1) := by decide +kernel
theorem dX0_countsOf_14 : decode cX0_countsOf 14 = .ok (.isub, 1) := by decide +kernel
theorem dX0_countsOf_15 : decode cX0_countsOf 15 = .ok (.aaload, 1) := by decide +kernel
theorem dX0_countsOf_16 : decode cX0_countsOf 16 = .ok (.areturn, 1) := by decide +kernel
theorem dX0_drop_0 : decode cX0_drop 0 = .ok (.aload_n 0, 1) := by decide +kernel
theorem dX0_drop_1 : decode cX0_drop 1 = .ok (.iload_n 1, 1) := by decide +kernel
theorem dX0_drop_2 : decode cX0_drop 2 = .ok (.invokevirtual 37, 3) := by decide +kernel
theorem dX0_drop_5 : decode cX0_drop 5 = .ok (.astore_n 3, 1) := by decide +kernel
theorem dX0_drop_6 : decode cX0_drop 6 = .ok (.iload_n 2, 1) := by decide +kernel
theorem dX0_drop_7 : decode cX0_drop 7 = .ok (.ifCond .lt 11, 3) := by decide +kernel
theorem dX0_drop_10 : decode cX0_drop 10 = .ok (.iload_n 2, 1) := by decide +kernel
theorem dX0_drop_11 : decode cX0_drop 11 = .ok (.aload_n 3, 1) := by decide +kernel
theorem dX0_drop_12 : decode cX0_drop 12 = .ok (.getfield 59, 3) := by decide +kernel
theorem dX0_drop_15 : decode cX0_drop 15 = .ok (.if_icmp .lt 4, 3) := by decide +kernel
theorem dX0_drop_19 : decode cX0_drop 19 = .ok (.aload_n 3, 1) := by decide +kernel
theorem dX0_drop_20 : decode cX0_drop 20 = .ok (.getfield 62, 3) := by decide +kernel
theorem dX0_drop_23 : decode cX0_drop 23 = .ok (.iload_n 2, 1) := by decide +kernel
theorem dX0_drop_24 : decode cX0_drop 24 = .ok (.iaload, 1) := by decide +kernel
theorem dX0_drop_25 : decode cX0_drop 25 = .ok (.istore 4, 2) := by decide +kernel
theorem dX0_drop_27 : decode cX0_drop 27 = .ok (.aload_n 3, 1) := by decide +kernel
theorem dX0_drop_28 : decode cX0_drop 28 = .ok (.iload_n 2, 1) := by decide +kernel
theorem dX0_drop_29 : decode cX0_drop 29 = .ok (.invokevirtual 65, 3) := by decide +kernel
theorem dX0_drop_32 : decode cX0_drop 32 = .ok (.aload_n 0, 1) := by decide +kernel
theorem dX0_drop_33 : decode cX0_drop 33 = .ok (.iload_n 1, 1) := by decide +kernel
theorem dX0_drop_34 : decode cX0_drop 34 = .ok (.iload 4, 2) := by decide +kernel
theorem dX0_drop_36 : decode cX0_drop 36 = .ok (.invokevirtual 55, 3) := by decide +kernel
theorem dX0_drop_39 : decode cX0_drop 39 = .ok (.return_, 1) := by decide +kernel
theorem dX0_forgetAll_0 : decode cX0_forgetAll 0 = .ok (.iconst 1, 1) := by decide +kernel
theorem dX0_forgetAll_1 : decode cX0_forgetAll 1 = .ok (.istore_n 1, 1) := by decide +kernel
theorem dX0_forgetAll_2 : decode cX0_forgetAll 2 = .ok (.iload_n 1, 1) := by decide +kernel
theorem dX0_forgetAll_3 : decode cX0_forgetAll 3 = .ok (.iconst 4, 1) := by decide +kernel
theorem dX0_forgetAll_4 : decode cX0_forgetAll 4 = .ok (.if_icmp .gt 27, 3) := by decide +kernel
theorem dX0_forgetAll_7 : decode cX0_forgetAll 7 = .ok (.aload_n 0, 1) := by decide +kernel
theorem dX0_forgetAll_8 : decode cX0_forgetAll 8 = .ok (.iload_n 1, 1) := by decide +kernel
theorem dX0_forgetAll_9 : decode cX0_forgetAll 9 = .ok (.invokevirtual 37, 3) := by decide +kernel
theorem dX0_forgetAll_12 : decode cX0_forgetAll 12 = .ok (.iconst 0, 1) := by decide +kernel
theorem dX0_forgetAll_13 : decode cX0_forgetAll 13 = .ok (.putfield 59, 3) := by decide +kernel
theorem dX0_forgetAll_16 : decode cX0_forgetAll 16 = .ok (.aload_n 0, 1) := by decide +kernel
theorem dX0_forgetAll_17 : decode cX0_forgetAll 17 = .ok (.iload_n 1, 1) := by decide +kernel
theorem dX0_forgetAll_18 : decode cX0_forgetAll 18 = .ok (.invokevirtual 45, 3) := by decide +kernel
theorem dX0_forgetAll_21 : decode cX0_forgetAll 21 = .ok (.iconst 0, 1) := by decide +kernel
theorem dX0_forgetAll_22 : decode cX0_forgetAll 22 = .ok (.putfield 59, 3) := by decide +kernel
theorem dX0_forgetAll_25 : decode cX0_forgetAll 25 = .ok (.iinc 1 1, 3) := by decide +kernel
theorem dX0_forgetAll_28 : decode cX0_forgetAll 28 = .ok (.goto (-26), 3) := by decide +kernel
theorem dX0_forgetAll_31 : decode cX0_forgetAll 31 = .ok (.return_, 1) := by decide +kernel
theorem dX0_lower_0 : decode cX0_lower 0 = .ok (.aload_n 0, 1) := by decide +kernel
theorem dX0_lower_1 : decode cX0_lower 1 = .ok (.iload_n 1, 1) := by decide +kernel
theorem dX0_lower_2 : decode cX0_lower 2 = .ok (.invokevirtual 37, 3) := by decide +kernel
theorem dX0_lower_5 : decode cX0_lower 5 = .ok (.iload_n 2, 1) := by decide +kernel
theorem dX0_lower_6 : decode cX0_lower 6 = .ok (.iload_n 3, 1) := by decide +kernel
theorem dX0_lower_7 : decode cX0_lower 7 = .ok (.invokevirtual 52, 3) := by decide +kernel
theorem dX0_lower_10 : decode cX0_lower 10 = .ok (.istore 4, 2) := by decide +kernel
theorem dX0_lower_12 : decode cX0_lower 12 = .ok (.iload 4, 2) := by decide +kernel
theorem dX0_lower_14 : decode cX0_lower 14 = .ok (.ifCond .eq 9, 3) := by decide +kernel
theorem dX0_lower_17 : decode cX0_lower 17 = .ok (.aload_n 0, 1) := by decide +kernel
theorem dX0_lower_18 : decode cX0_lower 18 = .ok (.iload_n 1, 1) := by decide +kernel
theorem dX0_lower_19 : decode cX0_lower 19 = .ok (.iload_n 2, 1) := by decide +kernel
theorem dX0_lower_20 : decode cX0_lower 20 = .ok (.invokevirtual 55, 3) := by decide +kernel
theorem dX0_lower_23 : decode cX0_lower 23 = .ok (.iload 4, 2) := by decide +kernel
theorem dX0_lower_25 : decode cX0_lower 25 = .ok (.ireturn, 1) := by decide +kernel
theorem dX0_lowerVariety_0 : decode cX0_lowerVariety 0 = .ok (.iload_n 1, 1) := by decide +kernel
theorem dX0_lowerVariety_1 : decode cX0_lowerVariety 1 = .ok (.iconst 1, 1) := by decide +kernel
theorem dX0_lowerVariety_2 : decode cX0_lowerVariety 2 = .ok (.if_icmp .le 24, 3) := by decide +kernel
theorem dX0_lowerVariety_5 : decode cX0_lowerVariety 5 = .ok (.aload_n 0, 1) := by decide +kernel
theorem dX0_lowerVariety_6 : decode cX0_lowerVariety 6 = .ok (.iload_n 1, 1) := by decide +kernel
theorem dX0_lowerVariety_7 : decode cX0_lowerVariety 7 = .ok (.iconst 1, 1) := by decide +kernel
theorem dX0_lowerVariety_8 : decode cX0_lowerVariety 8 = .ok (.isub, 1) := by decide +kernel
theorem dX0_lowerVariety_9 : decode cX0_lowerVariety 9 = .ok (.invokevirtual 45, 3) := by decide +kernel
theorem dX0_lowerVariety_12 : decode cX0_lowerVariety 12 = .ok (.iload_n 2, 1) := by decide +kernel
theorem dX0_lowerVariety_13 : decode cX0_lowerVariety 13 = .ok (.getstatic 48, 3) := by decide +kernel
theorem dX0_lowerVariety_16 : decode cX0_lowerVariety 16 = .ok (.iload_n 1, 1) := by decide +kernel
theorem dX0_lowerVariety_17 : decode cX0_lowerVariety 17 = .ok (.iconst 1, 1) := by decide +kernel
theorem dX0_lowerVariety_18 : decode cX0_lowerVariety 18 = .ok (.isub, 1) := by decide +kernel
theorem dX0_lowerVariety_19 : decode cX0_lowerVariety 19 = .ok (.iaload, 1) := by decide +kernel
theorem dX0_lowerVariety_20 : decode cX0_lowerVariety 20 = .ok (.irem, 1) := by decide +kernel
theorem dX0_lowerVariety_21 : decode cX0_lowerVariety 21 = .ok (.iconst 1, 1) := by decide +kernel
theorem dX0_lowerVariety_22 : decode cX0_lowerVariety 22 = .ok (.invokevirtual 52, 3) := by decide +kernel
theorem dX0_lowerVariety_25 : decode cX0_lowerVariety 25 = .ok (.pop, 1) := by decide +kernel
theorem dX0_lowerVariety_26 : decode cX0_lowerVariety 26 = .ok (.return_, 1) := by decide +kernel
theorem dX0_raise_0 : decode cX0_raise 0 = .ok (.aload_n 0, 1) := by decide +kernel
theorem dX0_raise_1 : decode cX0_raise 1 = .ok (.iload_n 1, 1) := by decide +kernel
theorem dX0_raise_2 : decode cX0_raise 2 = .ok (.invokevirtual 37, 3) := by decide +kernel
theorem dX0_raise_5 : decode cX0_raise 5 = .ok (.iload_n 2, 1) := by decide +kernel
theorem dX0_raise_6 : decode cX0_raise 6 = .ok (.iload_n 3, 1) := by decide +kernel
theorem dX0_raise_7 : decode cX0_raise 7 = .ok (.invokevirtual 41, 3) := by decide +kernel
theorem dX0_raise_10 : decode cX0_raise 10 = .ok (.ifCond .eq 29, 3) := by decide +kernel
theorem dX0_raise_13 : decode cX0_raise 13 = .ok (.iload_n 1, 1) := by decide +kernel
theorem dX0_raise_14 : decode cX0_raise 14 = .ok (.iconst 1, 1) := by decide +kernel
theorem dX0_raise_15 : decode cX0_raise 15 = .ok (.if_icmp .le 24, 3) := by decide +kernel
theorem dX0_raise_18 : decode cX0_raise 18 = .ok (.aload_n 0, 1) := by decide +kernel
theorem dX0_raise_19 : decode cX0_raise 19 = .ok (.iload_n 1, 1) := by decide +kernel
theorem dX0_raise_20 : decode cX0_raise 20 = .ok (.iconst 1, 1) := by decide +kernel
theorem dX0_raise_21 : decode cX0_raise 21 = .ok (.isub, 1) := by decide +kernel
theorem dX0_raise_22 : decode cX0_raise 22 = .ok (.invokevirtual 45, 3) := by decide +kernel
theorem dX0_raise_25 : decode cX0_raise 25 = .ok (.iload_n 2, 1) := by decide +kernel
theorem dX0_raise_26 : decode cX0_raise 26 = .ok (.getstatic 48, 3) := by decide +kernel
theorem dX0_raise_29 : decode cX0_raise 29 = .ok (.iload_n 1, 1) := by decide +kernel
theorem dX0_raise_30 : decode cX0_raise 30 = .ok (.iconst 1, 1) := by decide +kernel
theorem dX0_raise_31 : decode cX0_raise 31 = .ok (.isub, 1) := by decide +kernel
theorem dX0_raise_32 : decode cX0_raise 32 = .ok (.iaload, 1) := by decide +kernel
theorem dX0_raise_33 : decode cX0_raise 33 = .ok (.irem, 1) := by decide +kernel
theorem dX0_raise_34 : decode cX0_raise 34 = .ok (.iconst 1, 1) := by decide +kernel
theorem dX0_raise_35 : decode cX0_raise 35 = .ok (.invokevirtual 41, 3) := by decide +kernel
theorem dX0_raise_38 : decode cX0_raise 38 = .ok (.pop, 1) := by decide +kernel
theorem dX0_raise_39 : decode cX0_raise 39 = .ok (.return_, 1) := by decide +kernel
theorem dX0_sizeInAll_0 : decode cX0_sizeInAll 0 = .ok (.iconst 0, 1) := by decide +kernel
theorem dX0_sizeInAll_1 : decode cX0_sizeInAll 1 = .ok (.istore_n 1, 1) := by decide +kernel
theorem dX0_sizeInAll_2 : decode cX0_sizeInAll 2 = .ok (.iconst 1, 1) := by decide +kernel
theorem dX0_sizeInAll_3 : decode cX0_sizeInAll 3 = .ok (.istore_n 2, 1) := by decide +kernel
theorem dX0_sizeInAll_4 : decode cX0_sizeInAll 4 = .ok (.iload_n 2, 1) := by decide +kernel
theorem dX0_sizeInAll_5 : decode cX0_sizeInAll 5 = .ok (.aload_n 0, 1) := by decide +kernel
theorem dX0_sizeInAll_6 : decode cX0_sizeInAll 6 = .ok (.getfield 15, 3) := by decide +kernel
theorem dX0_sizeInAll_9 : decode cX0_sizeInAll 9 = .ok (.if_icmp .gt 20, 3) := by decide +kernel
theorem dX0_sizeInAll_12 : decode cX0_sizeInAll 12 = .ok (.iload_n 1, 1) := by decide +kernel
theorem dX0_sizeInAll_13 : decode cX0_sizeInAll 13 = .ok (.aload_n 0, 1) := by decide +kernel
theorem dX0_sizeInAll_14 : decode cX0_sizeInAll 14 = .ok (.iload_n 2, 1) := by decide +kernel
theorem dX0_sizeInAll_15 : decode cX0_sizeInAll 15 = .ok (.invokevirtual 37, 3) := by decide +kernel
theorem dX0_sizeInAll_18 : decode cX0_sizeInAll 18 = .ok (.getfield 59, 3) := by decide +kernel
theorem dX0_sizeInAll_21 : decode cX0_sizeInAll 21 = .ok (.iadd, 1) := by decide +kernel
theorem dX0_sizeInAll_22 : decode cX0_sizeInAll 22 = .ok (.istore_n 1, 1) := by decide +kernel
theorem dX0_sizeInAll_23 : decode cX0_sizeInAll 23 = .ok (.iinc 2 1, 3) := by decide +kernel
theorem dX0_sizeInAll_26 : decode cX0_sizeInAll 26 = .ok (.goto (-22), 3) := by decide +kernel
theorem dX0_sizeInAll_29 : decode cX0_sizeInAll 29 = .ok (.iload_n 1, 1) := by decide +kernel
theorem dX0_sizeInAll_30 : decode cX0_sizeInAll 30 = .ok (.ireturn, 1) := by decide +kernel
theorem dX0_varietyOf_0 : decode cX0_varietyOf 0 = .ok (.aload_n 0, 1) := by decide +kernel
theorem dX0_varietyOf_1 : decode cX0_varietyOf 1 = .ok (.getfield 24, 3) := by decide +kernel
theorem dX0_varietyOf_4 : decode cX0_varietyOf 4 = .ok (.iconst 1, 1) := by decide +kernel
theorem dX0_varietyOf_5 : decode cX0_varietyOf 5 = .ok (.iload_n 1, 1) := by decide +kernel
theorem dX0_varietyOf_6 : decode cX0_varietyOf 6 = .ok (.iconst 4, 1) := by decide +kernel
theorem dX0_varietyOf_7 : decode cX0_varietyOf 7 = .ok (.invokestatic 28, 3) := by decide +kernel
theorem dX0_varietyOf_10 : decode cX0_varietyOf 10 = .ok (.invokestatic 34, 3) := by decide +kernel
theorem dX0_varietyOf_13 : decode cX0_varietyOf 13 = .ok (.iconst 1, 1) := by decide +kernel
theorem dX0_varietyOf_14 : decode cX0_varietyOf 14 = .ok (.isub, 1) := by decide +kernel
theorem dX0_varietyOf_15 : decode cX0_varietyOf 15 = .ok (.aaload, 1) := by decide +kernel
theorem dX0_varietyOf_16 : decode cX0_varietyOf 16 = .ok (.areturn, 1) := by decide +kernel
set_option maxHeartbeats 4000000 in
set_option maxRecDepth 100000 in
theorem mX0_countsOf (l : Launch) (D : va_G) (κ a : Nat → Nat) (ε : Nat) (u : US) (n : Nat) (hn : 1 ≤ n ∧ n ≤ 4) : Ct (W0 κ a) l D κ ε yX0_countsOf cX0_countsOf 2 (some (.object "Canticle$Tally")) 1 21 0 0 u [.ref (a 1), .int (iI (n : Int))] (fun v u' => v = some (.ref (a (30 + 3 * (n - 1)))) ∧ u' = u) := by
  refine Ct.of (own := RX0) rfl (by decide +kernel) (Nat.le_of_ble_eq_true rfl) rfl (fun Γ h => ?_)
  refine w_aload_n h (pc := 0) dX0_countsOf_0 rfl ?_
  refine g1_counted h (pc := 1) wm_44 dX0_countsOf_1 ?_
  refine w_iconst h (pc := 4) dX0_countsOf_4 ?_
  refine w_iload_n h (pc := 5) dX0_countsOf_5 rfl ?_
  refine w_iconst h (pc := 6) dX0_countsOf_6 ?_
  refine w_imin h (pc := 7) wm_123 wm_124 wm_125 wm_126 (Nat.le_of_ble_eq_true rfl) (Nat.le_of_ble_eq_true rfl) (Nat.le_of_ble_eq_true rfl) (Nat.le_of_ble_eq_true rfl) (by omega) (by omega) (z := (n : Int)) (by split <;> omega) dX0_countsOf_7 ?_
  refine w_imax h (pc := 10) wm_127 wm_128 wm_125 wm_129 (Nat.le_of_ble_eq_true rfl) (Nat.le_of_ble_eq_true rfl) (Nat.le_of_ble_eq_true rfl) (Nat.le_of_ble_eq_true rfl) (by omega) (by omega) (z := (n : Int)) (by split <;> omega) dX0_countsOf_10 ?_
  refine w_iconst h (pc := 13) dX0_countsOf_13 ?_
  refine w_isub h (pc := 14) dX0_countsOf_14 ?_
  refine ld_counted h (pc := 15) (by omega) (q := 30 + 3 * (n - 1)) (by omega) dX0_countsOf_15 ?_
  exact w_aret h (pc := 16) rfl (Or.inl ⟨_, rfl⟩) dX0_countsOf_16 (Nat.le_of_ble_eq_true rfl) (Nat.le_of_ble_eq_true rfl) ⟨rfl, rfl⟩

set_option maxHeartbeats 4000000 in
set_option maxRecDepth 100000 in
theorem mX0_varietyOf (l : Launch) (D : va_G) (κ a : Nat → Nat) (ε : Nat) (u : US) (n : Nat) (hn : 1 ≤ n ∧ n ≤ 4) : Ct (W0 κ a) l D κ ε yX0_varietyOf cX0_varietyOf 2 (some (.object "Canticle$Tally")) 1 21 0 0 u [.ref (a 1), .int (iI (n : Int))] (fun v u' => v = some (.ref (a (30 + 3 * (n + 3)))) ∧ u' = u) := by
  refine Ct.of (own := RX0) rfl (by decide +kernel) (Nat.le_of_ble_eq_true rfl) rfl (fun Γ h => ?_)
  refine w_aload_n h (pc := 0) dX0_varietyOf_0 rfl ?_
  refine g1_varied h (pc := 1) wm_45 dX0_varietyOf_1 ?_
  refine w_iconst h (pc := 4) dX0_varietyOf_4 ?_
  refine w_iload_n h (pc := 5) dX0_varietyOf_5 rfl ?_
  refine w_iconst h (pc := 6) dX0_varietyOf_6 ?_
  refine w_imin h (pc := 7) wm_123 wm_124 wm_125 wm_126 (Nat.le_of_ble_eq_true rfl) (Nat.le_of_ble_eq_true rfl) (Nat.le_of_ble_eq_true rfl) (Nat.le_of_ble_eq_true rfl) (by omega) (by omega) (z := (n : Int)) (by split <;> omega) dX0_varietyOf_7 ?_
  refine w_imax h (pc := 10) wm_127 wm_128 wm_125 wm_129 (Nat.le_of_ble_eq_true rfl) (Nat.le_of_ble_eq_true rfl) (Nat.le_of_ble_eq_true rfl) (Nat.le_of_ble_eq_true rfl) (by omega) (by omega) (z := (n : Int)) (by split <;> omega) dX0_varietyOf_10 ?_
  refine w_iconst h (pc := 13) dX0_varietyOf_13 ?_
  refine w_isub h (pc := 14) dX0_varietyOf_14 ?_
  refine ld_varied h (pc := 15) (by omega) (q := 30 + 3 * (n + 3)) (by omega) dX0_varietyOf_15 ?_
  exact w_aret h (pc := 16) rfl (Or.inl ⟨_, rfl⟩) dX0_varietyOf_16 (Nat.le_of_ble_eq_true rfl) (Nat.le_of_ble_eq_true rfl) ⟨rfl, rfl⟩

set_option maxHeartbeats 4000000 in
set_option maxRecDepth 100000 in
theorem mX0_lowerVariety (l : Launch) (D : va_G) (κ a : Nat → Nat) (ε : Nat) (V m : Nat) (u : US) (T : Nat → List (Nat × Nat)) (hT : TA V m u T) (n : Nat) (hn : 1 ≤ n ∧ n ≤ 4) (hm : m ≤ 800) (k : Nat) (hk : k < 38416) (hd : 1 ≤ k % 14 ∧ k % 14 ≤ V + 1) : Ct (W0 κ a) l D κ ε yX0_lowerVariety cX0_lowerVariety 3 none 3 84 0 0 u [.ref (a 1), .int (iI (n : Int)), .int (iI (k : Int))] (fun v u' => v = none ∧ Fr tS tG u u' ∧ ∃ T', TA V m u' T' ∧ ∀ i, i < 4 → T' i = T i) := by
  refine Ct.of (own := RX0) rfl (by decide +kernel) (Nat.le_of_ble_eq_true rfl) rfl (fun Γ h => ?_)
  refine w_iload_n h (pc := 0) dX0_lowerVariety_0 rfl ?_
  refine w_iconst h (pc := 1) dX0_lowerVariety_1 ?_
  refine w_icmp_le h (pc := 2) (tgt := 26) dX0_lowerVariety_2 (by decide) (by omega) (by omega) (fun c2 => ?_) (fun c2 => ?_)
  · exact w_vret h (pc := 26) rfl dX0_lowerVariety_26 (Nat.le_of_ble_eq_true rfl) (Nat.le_of_ble_eq_true rfl) ⟨rfl, by first | exact hF.t (by omega) | exact Fr.rfl, by first | exact ⟨_, hT.set hF hT2 (hT (n + 2) (by omega)).2.lw (Nat.le_refl _), fun i hi => upT_ne _ _ (by omega)⟩ | exact ⟨T, hT, fun _ _ => rfl⟩⟩
  · have hpw := pw_p14 (n := n - 1) (by omega)
    have hp14 := p14_cs (n := n - 1) (by omega)
    have hvk := vk_ok (n := n - 1) (by omega) hk hd
    have hix : ((n : Int) - 1).toNat = n - 1 := by omega
    refine w_aload_n h (pc := 5) dX0_lowerVariety_5 rfl ?_
    refine w_iload_n h (pc := 6) dX0_lowerVariety_6 rfl ?_
    refine w_iconst h (pc := 7) dX0_lowerVariety_7 ?_
    refine w_isub h (pc := 8) dX0_lowerVariety_8 ?_
    rw [show ((n : Int) - 1) = ((n - 1 : Nat) : Int) by omega]
    refine w_callV1 h (pc := 9) (mX0_varietyOf l D κ a ε u (n - 1) (by omega)) 1 rfl rfl (gdV wm_130 wm_131 wm_132 wm_15 wm_133) (by decide +kernel) ⟨(Nat.le_of_ble_eq_true rfl), (Nat.le_of_ble_eq_true rfl)⟩ ⟨(Nat.le_of_ble_eq_true rfl), (Nat.le_of_ble_eq_true rfl)⟩ (fun _ _ _ => ⟨rfl, rfl⟩) (Nat.le_of_ble_eq_true rfl) dX0_lowerVariety_9 (fun v1 u1 hp1 => ?_)
    obtain ⟨rfl, rfl⟩ := hp1
    simp only [Option.toList_some, List.cons_append, List.nil_append]
    rw [show n - 1 + 3 = n + 2 by omega]
    refine w_iload_n h (pc := 12) dX0_lowerVariety_12 rfl ?_
    refine w_powsN h (pc := 13) (fun _ z => z.2.1) dX0_lowerVariety_13 ?_
    refine w_iload_n h (pc := 16) dX0_lowerVariety_16 rfl ?_
    refine w_iconst h (pc := 17) dX0_lowerVariety_17 ?_
    refine w_isub h (pc := 18) dX0_lowerVariety_18 ?_
    refine w_pow h (pc := 19) (by omega) ((congrArg pw hix).trans hpw) dX0_lowerVariety_19 ?_
    refine w_irem h (pc := 20) dX0_lowerVariety_20 (by omega) (by omega) ?_
    refine w_iconst h (pc := 21) dX0_lowerVariety_21 ?_
    refine w_callV2 h (pc := 22) (mX4_lower l D κ a ε u1 (n + 2) (by omega) (T (n + 2)) (hT (n + 2) (by omega)).1 ((hT (n + 2) (by omega)).2.O hm) (k % p14 (n - 1)) (by omega) 1 (by omega)) _ (ws_T (by omega)) rfl (gdV wm_212 wm_213 wm_214 wm_47 wm_215) (by decide +kernel) ⟨(Nat.le_of_ble_eq_true rfl), (Nat.le_of_ble_eq_true rfl)⟩ ⟨(Nat.le_of_ble_eq_true rfl), (Nat.le_of_ble_eq_true rfl)⟩ (fun _ _ _ => ⟨rfl, rfl⟩) (Nat.le_of_ble_eq_true rfl) dX0_lowerVariety_22 (fun v2 u2 hp2 => ?_)
    obtain ⟨rfl, hF, hT2⟩ := hp2
    simp only [Option.toList_some, List.cons_append, List.nil_append]
    refine w_pop h (pc := 25) dX0_lowerVariety_25 rfl ?_
    exact w_vret h (pc := 26) rfl dX0_lowerVariety_26 (Nat.le_of_ble_eq_true rfl) (Nat.le_of_ble_eq_true rfl) ⟨rfl, by first | exact hF.t (by omega) | exact Fr.rfl, by first | exact ⟨_, hT.set hF hT2 (hT (n + 2) (by omega)).2.lw (Nat.le_refl _), fun i hi => upT_ne _ _ (by omega)⟩ | exact ⟨T, hT, fun _ _ => rfl⟩⟩

set_option maxHeartbeats 4000000 in
set_option maxRecDepth 100000 in
theorem mX0_raise (l : Launch) (D : va_G) (κ a : Nat → Nat) (ε : Nat) (V m : Nat) (u : US) (T : Nat → List (Nat × Nat)) (hT : TA V m u T) (n : Nat) (hn : 1 ≤ n ∧ n ≤ 4) (hm : m < 800) (k : Nat) (hk : k < 38416) (hd : 1 ≤ k % 14 ∧ k % 14 ≤ V + 1) (c : Nat) (hc : 0 < c ∧ c ≤ 4) : Ct (W0 κ a) l D κ ε yX0_raise cX0_raise 4 none 2 63 0 0 u [.ref (a 1), .int (iI (n : Int)), .int (iI (k : Int)), .int (iI (c : Int))] (fun v u' => v = none ∧ Fr tS tG u u' ∧ ∃ T', TA V (m + 1) u' T' ∧ ∀ i, i < 4 → T' i = if i + 1 = n then rs (T i) k c else T i) := by
  have h0 := hT (n - 1) (by omega)
  have hl0 := h0.2.2.2.1
  refine Ct.of (own := RX0) rfl (by decide +kernel) (Nat.le_of_ble_eq_true rfl) rfl (fun Γ h => ?_)
  refine w_aload_n h (pc := 0) dX0_raise_0 rfl ?_
  refine w_iload_n h (pc := 1) dX0_raise_1 rfl ?_
  refine w_callV1 h (pc := 2) (mX0_countsOf l D κ a ε u n hn) 1 rfl rfl (gdV wm_119 wm_120 wm_121 wm_15 wm_122) (by decide +kernel) ⟨(Nat.le_of_ble_eq_true rfl), (Nat.le_of_ble_eq_true rfl)⟩ ⟨(Nat.le_of_ble_eq_true rfl), (Nat.le_of_ble_eq_true rfl)⟩ (fun _ _ _ => ⟨rfl, rfl⟩) (Nat.le_of_ble_eq_true rfl) dX0_raise_2 (fun v1 u1 hp1 => ?_)
  obtain ⟨rfl, rfl⟩ := hp1
  simp only [Option.toList_some, List.cons_append, List.nil_append]
  refine w_iload_n h (pc := 5) dX0_raise_5 rfl ?_
  refine w_iload_n h (pc := 6) dX0_raise_6 rfl ?_
  refine w_callV2 h (pc := 7) (mX4_raise l D κ a ε u1 (n - 1) (by omega) (T (n - 1)) h0.1 (h0.2.O (by omega)) k (by omega) c (by omega) (by omega)) _ (ws_T (by omega)) rfl (gdV wm_182 wm_183 wm_184 wm_47 wm_185) (by decide +kernel) ⟨(Nat.le_of_ble_eq_true rfl), (Nat.le_of_ble_eq_true rfl)⟩ ⟨(Nat.le_of_ble_eq_true rfl), (Nat.le_of_ble_eq_true rfl)⟩ (fun _ _ _ => ⟨rfl, rfl⟩) (Nat.le_of_ble_eq_true rfl) dX0_raise_7 (fun v2 u2 hp2 => ?_)
  obtain ⟨rfl, hF, hT2⟩ := hp2
  have hA2 := hT.set hF hT2 (h0.2.rs hk hd hc) (Nat.le_succ m)
  have hsp : ∀ i, i < 4 → upT T (n - 1) (rs (T (n - 1)) k c) i = if i + 1 = n then rs (T i) k c else T i := fun i hi => by
    unfold upT
    by_cases e : i = n - 1
    · rw [if_pos e, if_pos (by omega), e]
    · rw [if_neg e, if_neg (by omega)]
  simp only [Option.toList_some, List.cons_append, List.nil_append]
  refine w_if_eq h (pc := 10) (tgt := 39) dX0_raise_10 (by decide) (by split <;> omega) (fun c10 => ?_) (fun c10 => ?_)
  · exact w_vret h (pc := 39) rfl dX0_raise_39 (Nat.le_of_ble_eq_true rfl) (Nat.le_of_ble_eq_true rfl) ⟨rfl, by first | exact (hF.t (by omega)).tr (hF4.t (by omega)) | exact hF.t (by omega), by first | exact ⟨_, hA2.set hF4 hT4 (hv0.2.rs hvk.1 hvk.2 (by omega)) (Nat.le_refl _), fun i hi => (upT_ne _ _ (by omega)).trans (hsp i hi)⟩ | exact ⟨_, hA2, hsp⟩⟩
  · refine w_iload_n h (pc := 13) dX0_raise_13 rfl ?_
    refine w_iconst h (pc := 14) dX0_raise_14 ?_
    refine w_icmp_le h (pc := 15) (tgt := 39) dX0_raise_15 (by decide) (by omega) (by omega) (fun c15 => ?_) (fun c15 => ?_)
    · exact w_vret h (pc := 39) rfl dX0_raise_39 (Nat.le_of_ble_eq_true rfl) (Nat.le_of_ble_eq_true rfl) ⟨rfl, by first | exact (hF.t (by omega)).tr (hF4.t (by omega)) | exact hF.t (by omega), by first | exact ⟨_, hA2.set hF4 hT4 (hv0.2.rs hvk.1 hvk.2 (by omega)) (Nat.le_refl _), fun i hi => (upT_ne _ _ (by omega)).trans (hsp i hi)⟩ | exact ⟨_, hA2, hsp⟩⟩
    · have hpw := pw_p14 (n := n - 1) (by omega)
      have hp14 := p14_cs (n := n - 1) (by omega)
      have hvk := vk_ok (n := n - 1) (by omega) hk hd
      have hix : ((n : Int) - 1).toNat = n - 1 := by omega
      have hv00 := hT (n + 2) (by omega)
      have hv0 : TR u2 (n + 2) (T (n + 2)) ∧ TV V m (T (n + 2)) := ⟨hv00.1.fr (by omega) hF, hv00.2⟩
      have hlv := hv0.2.2.2.1
      refine w_aload_n h (pc := 18) dX0_raise_18 rfl ?_
      refine w_iload_n h (pc := 19) dX0_raise_19 rfl ?_
      refine w_iconst h (pc := 20) dX0_raise_20 ?_
      refine w_isub h (pc := 21) dX0_raise_21 ?_
      rw [show ((n : Int) - 1) = ((n - 1 : Nat) : Int) by omega]
      refine w_callV1 h (pc := 22) (mX0_varietyOf l D κ a ε u2 (n - 1) (by omega)) 1 rfl rfl (gdV wm_130 wm_131 wm_132 wm_15 wm_133) (by decide +kernel) ⟨(Nat.le_of_ble_eq_true rfl), (Nat.le_of_ble_eq_true rfl)⟩ ⟨(Nat.le_of_ble_eq_true rfl), (Nat.le_of_ble_eq_true rfl)⟩ (fun _ _ _ => ⟨rfl, rfl⟩) (Nat.le_of_ble_eq_true rfl) dX0_raise_22 (fun v3 u3 hp3 => ?_)
      obtain ⟨rfl, rfl⟩ := hp3
      simp only [Option.toList_some, List.cons_append, List.nil_append]
      rw [show n - 1 + 3 = n + 2 by omega]
      refine w_iload_n h (pc := 25) dX0_raise_25 rfl ?_
      refine w_powsN h (pc := 26) (fun _ z => z.2.1) dX0_raise_26 ?_
      refine w_iload_n h (pc := 29) dX0_raise_29 rfl ?_
      refine w_iconst h (pc := 30) dX0_raise_30 ?_
      refine w_isub h (pc := 31) dX0_raise_31 ?_
      refine w_pow h (pc := 32) (by omega) ((congrArg pw hix).trans hpw) dX0_raise_32 ?_
      refine w_irem h (pc := 33) dX0_raise_33 (by omega) (by omega) ?_
      refine w_iconst h (pc := 34) dX0_raise_34 ?_
      refine w_callV2 h (pc := 35) (mX4_raise l D κ a ε u3 (n + 2) (by omega) (T (n + 2)) hv0.1 (hv0.2.O (by omega)) (k % p14 (n - 1)) (by omega) 1 (by omega) (by omega)) _ (ws_T (by omega)) rfl (gdV wm_182 wm_183 wm_184 wm_47 wm_185) (by decide +kernel) ⟨(Nat.le_of_ble_eq_true rfl), (Nat.le_of_ble_eq_true rfl)⟩ ⟨(Nat.le_of_ble_eq_true rfl), (Nat.le_of_ble_eq_true rfl)⟩ (fun _ _ _ => ⟨rfl, rfl⟩) (Nat.le_of_ble_eq_true rfl) dX0_raise_35 (fun v4 u4 hp4 => ?_)
      obtain ⟨rfl, hF4, hT4⟩ := hp4
      simp only [Option.toList_some, List.cons_append, List.nil_append]
      refine w_pop h (pc := 38) dX0_raise_38 rfl ?_
      exact w_vret h (pc := 39) rfl dX0_raise_39 (Nat.le_of_ble_eq_true rfl) (Nat.le_of_ble_eq_true rfl) ⟨rfl, by first | exact (hF.t (by omega)).tr (hF4.t (by omega)) | exact hF.t (by omega), by first | exact ⟨_, hA2.set hF4 hT4 (hv0.2.rs hvk.1 hvk.2 (by omega)) (Nat.le_refl _), fun i hi => (upT_ne _ _ (by omega)).trans (hsp i hi)⟩ | exact ⟨_, hA2, hsp⟩⟩

set_option maxHeartbeats 4000000 in
set_option maxRecDepth 100000 in
theorem mX0_lower (l : Launch) (D : va_G) (κ a : Nat → Nat) (ε : Nat) (V m : Nat) (u : US) (T : Nat → List (Nat × Nat)) (hT : TA V m u T) (n : Nat) (hn : 1 ≤ n ∧ n ≤ 4) (hm : m ≤ 800) (k : Nat) (hk : k < 38416) (hd : 1 ≤ k % 14 ∧ k % 14 ≤ V + 1) (c : Nat) (hc : 0 < c ∧ c ≤ 4) : Ct (W0 κ a) l D κ ε yX0_lower cX0_lower 5 (some .boolean) 4 106 0 0 u [.ref (a 1), .int (iI (n : Int)), .int (iI (k : Int)), .int (iI (c : Int))] (fun v u' => v = some (.int (iI (if 0 < gt (T (n - 1)) k ∧ gt (T (n - 1)) k ≤ c then 1 else 0))) ∧ Fr tS tG u u' ∧ ∃ T', TA V m u' T' ∧ ∀ i, i < 4 → T' i = if i + 1 = n then lw (T i) k c else T i) := by
  have h0 := hT (n - 1) (by omega)
  refine Ct.of (own := RX0) rfl (by decide +kernel) (Nat.le_of_ble_eq_true rfl) rfl (fun Γ h => ?_)
  refine w_aload_n h (pc := 0) dX0_lower_0 rfl ?_
  refine w_iload_n h (pc := 1) dX0_lower_1 rfl ?_
  refine w_callV1 h (pc := 2) (mX0_countsOf l D κ a ε u n hn) 1 rfl rfl (gdV wm_119 wm_120 wm_121 wm_15 wm_122) (by decide +kernel) ⟨(Nat.le_of_ble_eq_true rfl), (Nat.le_of_ble_eq_true rfl)⟩ ⟨(Nat.le_of_ble_eq_true rfl), (Nat.le_of_ble_eq_true rfl)⟩ (fun _ _ _ => ⟨rfl, rfl⟩) (Nat.le_of_ble_eq_true rfl) dX0_lower_2 (fun v1 u1 hp1 => ?_)
  obtain ⟨rfl, rfl⟩ := hp1
  simp only [Option.toList_some, List.cons_append, List.nil_append]
  refine w_iload_n h (pc := 5) dX0_lower_5 rfl ?_
  refine w_iload_n h (pc := 6) dX0_lower_6 rfl ?_
  refine w_callV2 h (pc := 7) (mX4_lower l D κ a ε u1 (n - 1) (by omega) (T (n - 1)) h0.1 (h0.2.O (by omega)) k (by omega) c (by omega)) _ (ws_T (by omega)) rfl (gdV wm_212 wm_213 wm_214 wm_47 wm_215) (by decide +kernel) ⟨(Nat.le_of_ble_eq_true rfl), (Nat.le_of_ble_eq_true rfl)⟩ ⟨(Nat.le_of_ble_eq_true rfl), (Nat.le_of_ble_eq_true rfl)⟩ (fun _ _ _ => ⟨rfl, rfl⟩) (Nat.le_of_ble_eq_true rfl) dX0_lower_7 (fun v2 u2 hp2 => ?_)
  obtain ⟨rfl, hF, hT2⟩ := hp2
  have hA2 := hT.set hF hT2 h0.2.lw (Nat.le_refl m)
  have hsp : ∀ i, i < 4 → upT T (n - 1) (lw (T (n - 1)) k c) i = if i + 1 = n then lw (T i) k c else T i := fun i hi => by
    unfold upT
    by_cases e : i = n - 1
    · rw [if_pos e, if_pos (by omega), e]
    · rw [if_neg e, if_neg (by omega)]
  simp only [Option.toList_some, List.cons_append, List.nil_append]
  refine w_istore h (pc := 10) dX0_lower_10 (by decide) ?_
  refine w_iload h (pc := 12) dX0_lower_12 rfl ?_
  refine w_if_eq h (pc := 14) (tgt := 23) dX0_lower_14 (by decide) (by split <;> omega) (fun c14 => ?_) (fun c14 => ?_)
  · refine w_iload h (pc := 23) dX0_lower_23 rfl ?_
    exact w_iret h (pc := 25) (ty := .boolean) rfl (by split <;> rfl) dX0_lower_25 (Nat.le_of_ble_eq_true rfl) (Nat.le_of_ble_eq_true rfl) ⟨rfl, by first | exact (hF.t (by omega)).tr hF3 | exact hF.t (by omega), by first | exact ⟨_, hA3, fun i hi => (hs3 i hi).trans (hsp i hi)⟩ | exact ⟨_, hA2, hsp⟩⟩
  · refine w_aload_n h (pc := 17) dX0_lower_17 rfl ?_
    refine w_iload_n h (pc := 18) dX0_lower_18 rfl ?_
    refine w_iload_n h (pc := 19) dX0_lower_19 rfl ?_
    refine w_callV2 h (pc := 20) (mX0_lowerVariety l D κ a ε V m u2 _ hA2 n hn hm k hk hd) 1 rfl rfl (gdV wm_220 wm_221 wm_222 wm_15 wm_223) (by decide +kernel) ⟨(Nat.le_of_ble_eq_true rfl), (Nat.le_of_ble_eq_true rfl)⟩ ⟨(Nat.le_of_ble_eq_true rfl), (Nat.le_of_ble_eq_true rfl)⟩ (fun _ _ _ => ⟨rfl, rfl⟩) (Nat.le_of_ble_eq_true rfl) dX0_lower_20 (fun v3 u3 hp3 => ?_)
    obtain ⟨rfl, hF3, T3, hA3, hs3⟩ := hp3
    simp only [Option.toList_none, List.nil_append]
    refine w_iload h (pc := 23) dX0_lower_23 rfl ?_
    exact w_iret h (pc := 25) (ty := .boolean) rfl (by split <;> rfl) dX0_lower_25 (Nat.le_of_ble_eq_true rfl) (Nat.le_of_ble_eq_true rfl) ⟨rfl, by first | exact (hF.t (by omega)).tr hF3 | exact hF.t (by omega), by first | exact ⟨_, hA3, fun i hi => (hs3 i hi).trans (hsp i hi)⟩ | exact ⟨_, hA2, hsp⟩⟩

set_option maxHeartbeats 4000000 in
set_option maxRecDepth 100000 in
theorem mX0_drop (l : Launch) (D : va_G) (κ a : Nat → Nat) (ε : Nat) (V m : Nat) (u : US) (T : Nat → List (Nat × Nat)) (hT : TA V m u T) (n : Nat) (hn : 1 ≤ n ∧ n ≤ 4) (hm : m ≤ 800) (b : Nat × Nat) (hb : b ∈ T (n - 1)) : Ct (W0 κ a) l D κ ε yX0_drop cX0_drop 5 none 4 106 0 0 u [.ref (a 1), .int (iI (n : Int)), .int (iI (bw (T (n - 1)) b.1 : Int))] (fun v u' => v = none ∧ Fr tS tG u u' ∧ ∃ T', TA V m u' T' ∧ ∀ i, i < 4 → T' i = if i + 1 = n then del (T i) b.1 else T i) := by
  have h0 := hT (n - 1) (by omega)
  have hO := h0.2.O hm
  have hth := h0.2.1.there hb
  have hlt := (List.getElem?_eq_some_iff.mp hth).1
  have hlen := hO.2.2.1
  have hv := (h0.1.2 _ _ hth).1
  have hbb := h0.2.2.2.2 b hb
  refine Ct.of (own := RX0) rfl (by decide +kernel) (Nat.le_of_ble_eq_true rfl) rfl (fun Γ h => ?_)
  refine w_aload_n h (pc := 0) dX0_drop_0 rfl ?_
  refine w_iload_n h (pc := 1) dX0_drop_1 rfl ?_
  refine w_callV1 h (pc := 2) (mX0_countsOf l D κ a ε u n hn) 1 rfl rfl (gdV wm_119 wm_120 wm_121 wm_15 wm_122) (by decide +kernel) ⟨(Nat.le_of_ble_eq_true rfl), (Nat.le_of_ble_eq_true rfl)⟩ ⟨(Nat.le_of_ble_eq_true rfl), (Nat.le_of_ble_eq_true rfl)⟩ (fun _ _ _ => ⟨rfl, rfl⟩) (Nat.le_of_ble_eq_true rfl) dX0_drop_2 (fun v1 u1 hp1 => ?_)
  obtain ⟨rfl, rfl⟩ := hp1
  simp only [Option.toList_some, List.cons_append, List.nil_append]
  refine w_astore_n h (pc := 5) dX0_drop_5 (by decide) ?_
  refine w_iload_n h (pc := 6) dX0_drop_6 rfl ?_
  refine w_if_lt h (pc := 7) (tgt := 18) dX0_drop_7 (by decide) (by omega) (fun c7 => by exfalso; omega) (fun c7 => ?_)
  refine w_iload_n h (pc := 10) dX0_drop_10 rfl ?_
  refine w_aload_n h (pc := 11) dX0_drop_11 rfl ?_
  refine gT_size h (pc := 12) (by omega) h0.1.1 wm_118 dX0_drop_12 ?_
  refine w_icmp_lt h (pc := 15) (tgt := 19) dX0_drop_15 (by decide) (by omega) (by omega) (fun c15 => ?_) (fun c15 => by exfalso; omega)
  refine w_aload_n h (pc := 19) dX0_drop_19 rfl ?_
  refine gT_keys h (pc := 20) (by omega) wm_476 dX0_drop_20 ?_
  refine w_iload_n h (pc := 23) dX0_drop_23 rfl ?_
  refine ld_keys h (pc := 24) (by omega) (by omega) hv dX0_drop_24 ?_
  refine w_istore h (pc := 25) dX0_drop_25 (by decide) ?_
  refine w_aload_n h (pc := 27) dX0_drop_27 rfl ?_
  refine w_iload_n h (pc := 28) dX0_drop_28 rfl ?_
  refine w_callV1 h (pc := 29) (mX4_removeAt l D κ a ε u1 (n - 1) (by omega) (T (n - 1)) b.1 b.2 hO (h0.1.x _) hth) _ (ws_T (by omega)) rfl (gdV wm_477 wm_217 wm_218 wm_47 wm_219) (by decide +kernel) ⟨(Nat.le_of_ble_eq_true rfl), (Nat.le_of_ble_eq_true rfl)⟩ ⟨(Nat.le_of_ble_eq_true rfl), (Nat.le_of_ble_eq_true rfl)⟩ (fun _ _ _ => ⟨rfl, rfl⟩) (Nat.le_of_ble_eq_true rfl) dX0_drop_29 (fun v2 u2 hp2 => ?_)
  obtain ⟨rfl, hF, hT2⟩ := hp2
  have hA2 := hT.set hF hT2 h0.2.del (Nat.le_refl m)
  have hsp : ∀ i, i < 4 → upT T (n - 1) (del (T (n - 1)) b.1) i = if i + 1 = n then del (T i) b.1 else T i := fun i hi => by
    unfold upT
    by_cases e : i = n - 1
    · rw [if_pos e, if_pos (by omega), e]
    · rw [if_neg e, if_neg (by omega)]
  simp only [Option.toList_none, List.nil_append]
  refine w_aload_n h (pc := 32) dX0_drop_32 rfl ?_
  refine w_iload_n h (pc := 33) dX0_drop_33 rfl ?_
  refine w_iload h (pc := 34) dX0_drop_34 rfl ?_
  refine w_callV2 h (pc := 36) (mX0_lowerVariety l D κ a ε V m u2 _ hA2 n hn hm b.1 hbb.1 ⟨hbb.2.1, hbb.2.2.1⟩) 1 rfl rfl (gdV wm_220 wm_221 wm_222 wm_15 wm_223) (by decide +kernel) ⟨(Nat.le_of_ble_eq_true rfl), (Nat.le_of_ble_eq_true rfl)⟩ ⟨(Nat.le_of_ble_eq_true rfl), (Nat.le_of_ble_eq_true rfl)⟩ (fun _ _ _ => ⟨rfl, rfl⟩) (Nat.le_of_ble_eq_true rfl) dX0_drop_36 (fun v3 u3 hp3 => ?_)
  obtain ⟨rfl, hF3, T3, hA3, hs3⟩ := hp3
  simp only [Option.toList_none, List.nil_append]
  exact w_vret h (pc := 39) rfl dX0_drop_39 (Nat.le_of_ble_eq_true rfl) (Nat.le_of_ble_eq_true rfl) ⟨rfl, (hF.t (by omega)).tr hF3, ⟨_, hA3, fun i hi => (hs3 i hi).trans (hsp i hi)⟩⟩

set_option maxHeartbeats 4000000 in
set_option maxRecDepth 100000 in
theorem mX0_sizeInAll (l : Launch) (D : va_G) (κ a : Nat → Nat) (ε : Nat) (V m : Nat) (u : US) (T : Nat → List (Nat × Nat)) (hT : TA V m u T) (N : Nat) (hN : N ≤ 4) (hO : u.1 5 = (N : Int)) (hm : m ≤ 800) : Ct (W0 κ a) l D κ ε yX0_sizeInAll cX0_sizeInAll 3 (some .int) 2 42 0 0 u [.ref (a 1)] (fun v u' => v = some (.int (iI (sm (fun i => (T i).length) N : Int))) ∧ u' = u) := by
  refine Ct.of (own := RX0) rfl (by decide +kernel) (Nat.le_of_ble_eq_true rfl) rfl (fun Γ h => ?_)
  refine w_iconst h (pc := 0) dX0_sizeInAll_0 ?_
  refine w_istore_n h (pc := 1) dX0_sizeInAll_1 (by decide) ?_
  refine w_iconst h (pc := 2) dX0_sizeInAll_2 ?_
  refine w_istore_n h (pc := 3) dX0_sizeInAll_3 (by decide) ?_
  have lp4 : ∀ (n j : Nat), N < j + n → j ≤ N → sm (fun i => (T i).length) j ≤ 800 * j → WW Γ 3 u 4 [(0, .ref (a 1)), (1, .int (iI (sm (fun i => (T i).length) j : Int))), (2, .int (iI ((j : Int) + 1)))] [] := by
    intro n9
    induction n9 with
    | zero => intro j hn hj hle; exfalso; omega
    | succ n9 ih =>
      intro j hn hj hle
      refine w_iload_n h (pc := 4) dX0_sizeInAll_4 rfl ?_
      refine w_aload_n h (pc := 5) dX0_sizeInAll_5 rfl ?_
      refine g1_order h (pc := 6) hO wm_42 dX0_sizeInAll_6 ?_
      refine w_icmp_gt h (pc := 9) (tgt := 29) dX0_sizeInAll_9 (by decide) (by omega) (by omega) (fun c9 => ?_) (fun c9 => ?_)
      · have e : j = N := by omega
        refine w_iload_n h (pc := 29) dX0_sizeInAll_29 rfl ?_
        exact w_iret h (pc := 30) (ty := .int) rfl rfl dX0_sizeInAll_30 (Nat.le_of_ble_eq_true rfl) (Nat.le_of_ble_eq_true rfl) ⟨by rw [e], rfl⟩
      · have h0 := hT j (by omega)
        have hl0 := h0.2.2.2.1
        refine w_iload_n h (pc := 12) dX0_sizeInAll_12 rfl ?_
        refine w_aload_n h (pc := 13) dX0_sizeInAll_13 rfl ?_
        refine w_iload_n h (pc := 14) dX0_sizeInAll_14 rfl ?_
        rw [show ((j : Int) + 1) = ((j + 1 : Nat) : Int) by omega]
        refine w_callV1 h (pc := 15) (mX0_countsOf l D κ a ε u (j + 1) (by omega)) 1 rfl rfl (gdV wm_119 wm_120 wm_121 wm_15 wm_122) (by decide +kernel) ⟨(Nat.le_of_ble_eq_true rfl), (Nat.le_of_ble_eq_true rfl)⟩ ⟨(Nat.le_of_ble_eq_true rfl), (Nat.le_of_ble_eq_true rfl)⟩ (fun _ _ _ => ⟨rfl, rfl⟩) (Nat.le_of_ble_eq_true rfl) dX0_sizeInAll_15 (fun v1 u1 hp1 => ?_)
        obtain ⟨rfl, e9⟩ := hp1
        subst e9
        rw [show j + 1 - 1 = j by omega]
        simp only [Option.toList_some, List.cons_append, List.nil_append]
        refine gT_size h (pc := 18) (by omega) h0.1.1 wm_118 dX0_sizeInAll_18 ?_
        refine w_iadd h (pc := 21) dX0_sizeInAll_21 ?_
        refine w_istore_n h (pc := 22) dX0_sizeInAll_22 (by decide) ?_
        refine w_iinc h (pc := 23) dX0_sizeInAll_23 rfl (by decide) ?_
        refine w_goto h (pc := 26) (tgt := 4) dX0_sizeInAll_26 (by decide) ?_
        exact WW.sub (by rfl) (ih (j + 1) (by omega) (by omega) (by rw [sm_s]; omega))
  exact WW.sub (by rfl) (lp4 (N + 1) 0 (by omega) (by omega) (Nat.le_refl _))

set_option maxHeartbeats 4000000 in
set_option maxRecDepth 100000 in
theorem mX0_forgetAll (l : Launch) (D : va_G) (κ a : Nat → Nat) (ε : Nat) (u : US) : Ct (W0 κ a) l D κ ε yX0_forgetAll cX0_forgetAll 2 none 2 42 0 0 u [.ref (a 1)] (fun v u' => v = none ∧ Fr tS [] u u' ∧ ∀ i, i < 8 → u'.1 (12 + i) = 0) := by
  refine Ct.of (own := RX0) rfl (by decide +kernel) (Nat.le_of_ble_eq_true rfl) rfl (fun Γ h => ?_)
  refine w_iconst h (pc := 0) dX0_forgetAll_0 ?_
  refine w_istore_n h (pc := 1) dX0_forgetAll_1 (by decide) ?_
  have lp2 : ∀ (n j : Nat) (w : US), 4 < j + n → j ≤ 4 → Fr tS [] u w → (∀ i, i < j → w.1 (12 + i) = 0 ∧ w.1 (16 + i) = 0) → WW Γ 2 w 2 [(0, .ref (a 1)), (1, .int (iI ((j : Int) + 1)))] [] := by
    intro n9
    induction n9 with
    | zero => intro j w hn hj hF hz; exfalso; omega
    | succ n9 ih =>
      intro j w hn hj hF hz
      refine w_iload_n h (pc := 2) dX0_forgetAll_2 rfl ?_
      refine w_iconst h (pc := 3) dX0_forgetAll_3 ?_
      refine w_icmp_gt h (pc := 4) (tgt := 31) dX0_forgetAll_4 (by decide) (by omega) (by omega) (fun c4 => ?_) (fun c4 => ?_)
      · have e : j = 4 := by omega
        have hz8 : ∀ i, i < 8 → w.1 (12 + i) = 0 := fun i hi => by
          rcases Nat.lt_or_ge i 4 with q | q
          · exact (hz i (by omega)).1
          · have := (hz (i - 4) (by omega)).2
            rwa [show 16 + (i - 4) = 12 + i by omega] at this
        exact w_vret h (pc := 31) rfl dX0_forgetAll_31 (Nat.le_of_ble_eq_true rfl) (Nat.le_of_ble_eq_true rfl) ⟨rfl, hF, hz8⟩
      · refine w_aload_n h (pc := 7) dX0_forgetAll_7 rfl ?_
        refine w_iload_n h (pc := 8) dX0_forgetAll_8 rfl ?_
        rw [show ((j : Int) + 1) = ((j + 1 : Nat) : Int) by omega]
        refine w_callV1 h (pc := 9) (mX0_countsOf l D κ a ε w (j + 1) (by omega)) 1 rfl rfl (gdV wm_119 wm_120 wm_121 wm_15 wm_122) (by decide +kernel) ⟨(Nat.le_of_ble_eq_true rfl), (Nat.le_of_ble_eq_true rfl)⟩ ⟨(Nat.le_of_ble_eq_true rfl), (Nat.le_of_ble_eq_true rfl)⟩ (fun _ _ _ => ⟨rfl, rfl⟩) (Nat.le_of_ble_eq_true rfl) dX0_forgetAll_9 (fun v1 u1 hp1 => ?_)
        obtain ⟨rfl, e9⟩ := hp1
        subst e9
        rw [show j + 1 - 1 = j by omega]
        simp only [Option.toList_some, List.cons_append, List.nil_append]
        refine w_iconst h (pc := 12) dX0_forgetAll_12 ?_
        refine pT_size h (pc := 13) (by omega) wm_118 dX0_forgetAll_13 ?_
        refine w_aload_n h (pc := 16) dX0_forgetAll_16 rfl ?_
        refine w_iload_n h (pc := 17) dX0_forgetAll_17 rfl ?_
        refine w_callV1 h (pc := 18) (mX0_varietyOf l D κ a ε _ (j + 1) (by omega)) 1 rfl rfl (gdV wm_130 wm_131 wm_132 wm_15 wm_133) (by decide +kernel) ⟨(Nat.le_of_ble_eq_true rfl), (Nat.le_of_ble_eq_true rfl)⟩ ⟨(Nat.le_of_ble_eq_true rfl), (Nat.le_of_ble_eq_true rfl)⟩ (fun _ _ _ => ⟨rfl, rfl⟩) (Nat.le_of_ble_eq_true rfl) dX0_forgetAll_18 (fun v1 u1 hp1 => ?_)
        obtain ⟨rfl, e9⟩ := hp1
        subst e9
        rw [show j + 1 + 3 = j + 4 by omega]
        simp only [Option.toList_some, List.cons_append, List.nil_append]
        refine w_iconst h (pc := 21) dX0_forgetAll_21 ?_
        refine pT_size h (pc := 22) (by omega) wm_118 dX0_forgetAll_22 ?_
        have hF2 : Fr tS [] u (uS (uS u1 (12 + j) 0) (12 + (j + 4)) 0) := (hF.tr (Fr.S (by simp only [tS, List.mem_cons, List.not_mem_nil, or_false]; omega))).tr (Fr.S (by simp only [tS, List.mem_cons, List.not_mem_nil, or_false]; omega))
        have hz2 : ∀ i, i < j + 1 → (uS (uS u1 (12 + j) 0) (12 + (j + 4)) 0).1 (12 + i) = 0 ∧ (uS (uS u1 (12 + j) 0) (12 + (j + 4)) 0).1 (16 + i) = 0 := fun i hi => by
          unfold uS
          dsimp only
          have := hz i
          constructor <;> (repeat' split) <;> first | rfl | omega | (exact (hz i (by omega)).1) | (exact (hz i (by omega)).2)
        refine w_iinc h (pc := 25) dX0_forgetAll_25 rfl (by decide) ?_
        refine w_goto h (pc := 28) (tgt := 2) dX0_forgetAll_28 (by decide) ?_
        exact WW.sub (by rfl) (ih (j + 1) _ (by omega) (by omega) hF2 hz2)
  exact WW.sub (by rfl) (lp2 5 0 u (by omega) (by omega) Fr.rfl (fun i hi => absurd hi (Nat.not_lt_zero i)))
end
section
/-! pure layer 7 (DRAFT, never compiled yet): costs -/
/-- the halvings: as long as they are few and p isn't above the next half -/
def hv (p : Nat) : Nat → Nat → Nat
  | 0, h => h
  | f + 1, h => if h < 19 ∧ p ≤ 1000000 / 2 ^ (h + 1) then hv p f (h + 1) else h
def co (p : Nat) : Nat :=
  if p = 0 then 32768 else if 1000000 ≤ p then 0 else
  1024 * hv p 19 0 + 1024 * (1000000 / 2 ^ hv p 19 0 - p) / (1000000 / 2 ^ hv p 19 0 - 1000000 / 2 ^ (hv p 19 0 + 1))
theorem hv_le (p : Nat) : ∀ f h : Nat, h ≤ 19 → hv p f h ≤ 19
  | 0, _, hh => hh
  | f + 1, h, hh => by
    unfold hv
    split
    · exact hv_le p f (h + 1) (by omega)
    · exact hh
/-- where the halving ends p is at most the whole and above the half, if few halvings were enough -/
theorem hv_up (p : Nat) : ∀ f h : Nat, p ≤ 1000000 / 2 ^ h → p ≤ 1000000 / 2 ^ hv p f h
  | 0, _, q => q
  | f + 1, h, q => by
    unfold hv
    split
    · rename_i r; exact hv_up p f (h + 1) r.2
    · exact q
theorem co_near {p : Nat} (h : 998432 ≤ p) (h2 : p ≤ 1000000) : co p ≤ 1024 := by
  unfold co
  rw [if_neg (by omega)]
  by_cases e : 1000000 ≤ p
  · rw [if_pos e]; exact Nat.zero_le _
  · rw [if_neg e]
    have h0 : hv p 19 0 = 0 := by
      unfold hv
      rw [if_neg (fun q => by have := q.2; omega)]
    rw [h0]
    show 1024 * 0 + 1024 * (1000000 - p) / (1000000 - 500000) ≤ 1024
    omega
end
section
/-! pure layer 8 (DRAFT, never compiled yet): the chances behind a context, as a function -/
/-- one order's refining: T the tally that is looked at, c the context -/
def rfS (T : List (Nat × Nat)) (c V : Nat) : Nat := sm (fun w => gt T (c * 14 + w + 1)) (V + 1)
def rf (way num V : Nat) (T : List (Nat × Nat)) (c : Nat) (p : Nat → Nat) (w : Nat) : Nat :=
  if way ≠ 0 ∧ rfS T c V = 0 then p w else if w ≤ V then bl 1000000 way num (V + 1) (gt T (c * 14 + w + 1)) (rfS T c V) (kd (fun w => gt T (c * 14 + w + 1)) (V + 1)) (p w) else p w
def tl (way N : Nat) (cn va : Nat → List (Nat × Nat)) (n : Nat) : List (Nat × Nat) := if way = 4 ∧ n < N then va n else cn n
/-- the orders from lo on, m of them -/
def rcF (way num V N : Nat) (cn va : Nat → List (Nat × Nat)) (ctx lo : Nat) : Nat → Nat → Nat
  | 0 => fun _ => 1000000 / (V + 1)
  | m + 1 => rf way num V (tl way N cn va (lo + m)) (ctx % 14 ^ (lo + m - 1)) (rcF way num V N cn va ctx lo m)
def chs (way num V N : Nat) (cn va : Nat → List (Nat × Nat)) (n ctx : Nat) : Nat → Nat :=
  if way = 0 then rcF way num V N cn va ctx n 1 else rcF way num V N cn va ctx 1 n
theorem rf_Ch {way num V d : Nat} {T : List (Nat × Nat)} {c : Nat} {p : Nat → Nat} (hnum : 1 ≤ num ∧ num ≤ 1000) (hd : V + 1 ≤ d) (hp : Ch 1000000 (V + 1) d p) : Ch 1000000 (V + 1) (d + (V + 1)) (rf way num V T c p) := by
  by_cases h : way ≠ 0 ∧ rfS T c V = 0
  · have e : ∀ i, i < V + 1 → rf way num V T c p i = p i := fun i _ => by unfold rf; rw [if_pos h]
    unfold Ch at hp ⊢
    rw [sm_cg e]
    exact ⟨hp.1, by omega⟩
  · refine ch_blend (way := way) (num := num) (c := fun w => gt T (c * 14 + w + 1)) (p := p) (Nat.succ_pos _) hnum ?_ hd hp fun i hi => ?_
    · by_cases w0 : way = 0
      · exact Or.inl w0
      · refine Or.inr (Nat.pos_of_ne_zero fun q => h ⟨w0, q⟩)
    · unfold rf
      rw [if_neg h, if_pos (by omega)]
      rfl
theorem rcF_Ch {way num V N : Nat} {cn va : Nat → List (Nat × Nat)} {ctx lo : Nat} (hnum : 1 ≤ num ∧ num ≤ 1000) : ∀ m : Nat, Ch 1000000 (V + 1) ((m + 1) * (V + 1)) (rcF way num V N cn va ctx lo m)
  | 0 => by rw [Nat.zero_add, Nat.one_mul]; exact ch_start (Nat.succ_pos _)
  | m + 1 => by
    rw [Nat.succ_mul]
    exact rf_Ch hnum (Nat.le_mul_of_pos_left _ (Nat.succ_pos m)) (rcF_Ch hnum m)
theorem chs_Ch {way num V N n : Nat} {cn va : Nat → List (Nat × Nat)} {ctx : Nat} (hnum : 1 ≤ num ∧ num ≤ 1000) (hn : 1 ≤ n) : Ch 1000000 (V + 1) ((n + 1) * (V + 1)) (chs way num V N cn va n ctx) := by
  unfold chs
  split
  · have h := rcF_Ch (way := way) (V := V) (N := N) (cn := cn) (va := va) (ctx := ctx) (lo := n) hnum 1
    have h1 : (1 + 1) * (V + 1) ≤ (n + 1) * (V + 1) := Nat.mul_le_mul_right _ (by omega)
    exact ⟨h.1, Nat.le_trans h.2 (by omega)⟩
  · exact rcF_Ch hnum n
/-- what the law asks of the sum -/
theorem chs_law {V N d : Nat} {p : Nat → Nat} (hp : Ch 1000000 (V + 1) ((N + 1) * (V + 1)) p) (hN : 1 ≤ N) : 1000000 ≤ sm p (V + 1) + 8 * N * (V + 2) * (V + 2) := by
  have h := hp.2
  have h1 : (N + 1) * (V + 1) ≤ 8 * N * (V + 2) * (V + 2) := by
    have a : (N + 1) * (V + 1) ≤ (8 * N) * (V + 2) := Nat.mul_le_mul (by omega) (by omega)
    exact Nat.le_trans a (Nat.le_mul_of_pos_right _ (by omega))
  omega
end
section
theorem sm_tail {f : Nat → Nat} {n : Nat} : ∀ k : Nat, (∀ i, n ≤ i → i < n + k → f i = 0) → sm f (n + k) = sm f n
  | 0, _ => rfl
  | k + 1, h => by
    rw [show n + (k + 1) = (n + k) + 1 from rfl, sm_s, h (n + k) (by omega) (by omega), sm_tail k (fun i h1 h2 => h i h1 (by omega))]
    rfl
/-- what stands behind a context, of the words above V: nothing -/
theorem gt_over {V m c w : Nat} {t : List (Nat × Nat)} (h : TV V m t) (hw : V < w) (h13 : w < 13) : gt t (c * 14 + w + 1) = 0 := gt_out fun b hb e => by
  have := h.2.2.2 b hb
  omega
theorem gt_sum13 {V m c : Nat} {t : List (Nat × Nat)} (h : TV V m t) (hV : V ≤ 12) : sm (fun w => gt t (c * 14 + w + 1)) 13 = sm (fun w => gt t (c * 14 + w + 1)) (V + 1) ∧ kd (fun w => gt t (c * 14 + w + 1)) 13 = kd (fun w => gt t (c * 14 + w + 1)) (V + 1) := by
  constructor
  · have := sm_tail (f := fun w => gt t (c * 14 + w + 1)) (n := V + 1) (12 - V) (fun i h1 h2 => gt_over h (by omega) (by omega))
    rwa [show V + 1 + (12 - V) = 13 by omega] at this
  · unfold kd
    have := sm_tail (f := fun w => if 0 < gt t (c * 14 + w + 1) then 1 else 0) (n := V + 1) (12 - V) (fun i h1 h2 => by
      rw [gt_over h (by omega) (by omega)]; rfl)
    rwa [show V + 1 + (12 - V) = 13 by omega] at this
/-- the sum of what is met behind a context is at most all counts -/
theorem sm_bound {f : Nat → Nat} {B : Nat} : ∀ n : Nat, (∀ i, i < n → f i ≤ B) → sm f n ≤ n * B
  | 0, _ => Nat.zero_le _
  | n + 1, h => by
    rw [sm_s, Nat.succ_mul]
    have := sm_bound n (fun i hi => h i (by omega))
    have := h n (by omega)
    omega
theorem kd_n {c : Nat → Nat} : ∀ n : Nat, kd c n ≤ n
  | 0 => Nat.le_refl _
  | n + 1 => by
    have := kd_n (c := c) n
    unfold kd at *
    rw [sm_s]
    split <;> omega
/-- java.util.Arrays.fill, over a row of the class's -/
def fi (f : Nat → Int) (i : Nat) (z : Int) : Nat → Int := fun j => if j < i then z else f j
theorem fi_up (f : Nat → Int) (i : Nat) (z : Int) : upI (fi f i z) i z = fi f (i + 1) z := by
  funext j
  unfold upI fi
  by_cases e : j = i
  · rw [if_pos e, if_pos (by omega)]
  · rw [if_neg e]
    by_cases e2 : j < i
    · rw [if_pos e2, if_pos (by omega)]
    · rw [if_neg e2, if_neg (by omega)]
theorem uA_uA (u : US) (k : Nat) (f g : Nat → Int) : uA (uA u k f) k g = uA u k g := by
  unfold uA
  congr 1
  funext j
  dsimp only
  split <;> rfl
theorem uA_self (u : US) (k : Nat) : uA u k (u.2 k) = u := by
  unfold uA
  refine Prod.ext rfl ?_
  funext j
  dsimp only
  split
  · rename_i e; rw [e]
  · rfl
theorem dJ7_fill_53178_0 : decode cJ7_fill_53178 0 = .ok (.iconst 0, 1) := by decide +kernel
theorem dJ7_fill_53178_1 : decode cJ7_fill_53178 1 = .ok (.istore_n 2, 1) := by decide +kernel
theorem dJ7_fill_53178_2 : decode cJ7_fill_53178 2 = .ok (.aload_n 0, 1) := by decide +kernel
theorem dJ7_fill_53178_3 : decode cJ7_fill_53178 3 = .ok (.arraylength, 1) := by decide +kernel
theorem dJ7_fill_53178_4 : decode cJ7_fill_53178 4 = .ok (.istore_n 3, 1) := by decide +kernel
theorem dJ7_fill_53178_5 : decode cJ7_fill_53178 5 = .ok (.iload_n 2, 1) := by decide +kernel
theorem dJ7_fill_53178_6 : decode cJ7_fill_53178 6 = .ok (.iload_n 3, 1) := by decide +kernel
theorem dJ7_fill_53178_7 : decode cJ7_fill_53178 7 = .ok (.if_icmp .ge 13, 3) := by decide +kernel
theorem dJ7_fill_53178_10 : decode cJ7_fill_53178 10 = .ok (.aload_n 0, 1) := by decide +kernel
theorem dJ7_fill_53178_11 : decode cJ7_fill_53178 11 = .ok (.iload_n 2, 1) := by decide +kernel
theorem dJ7_fill_53178_12 : decode cJ7_fill_53178 12 = .ok (.iload_n 1, 1) := by decide +kernel
theorem dJ7_fill_53178_13 : decode cJ7_fill_53178 13 = .ok (.iastore, 1) := by decide +kernel
theorem dJ7_fill_53178_14 : decode cJ7_fill_53178 14 = .ok (.iinc 2 1, 3) := by decide +kernel
theorem dJ7_fill_53178_17 : decode cJ7_fill_53178 17 = .ok (.goto (-12), 3) := by decide +kernel
theorem dJ7_fill_53178_20 : decode cJ7_fill_53178 20 = .ok (.return_, 1) := by decide +kernel
set_option maxHeartbeats 4000000 in
set_option maxRecDepth 100000 in
theorem mJ7_fill (l : Launch) (D : va_G) (κ a : Nat → Nat) (ε : Nat) (u : US) (q n : Nat) (z : Int) (hn : n < 100) (hw : ∀ w : US, (WS κ a w)[q]? = some (a q, .inl (κ 0, n, .inl (iA (w.2 q))))) (hs : ∀ (w : US) (f : Nat → Int), (WS κ a w).set q (a q, .inl (κ 0, n, .inl (iA f))) = WS κ a (uA w q f)) : Ct (W0 κ a) l D κ ε yJ7_fill_53178 cJ7_fill_53178 4 none 0 0 0 0 u [.ref (a q), .int (iI z)] (fun v u' => v = none ∧ u' = uA u q (fi (u.2 q) n z)) := by
  refine Ct.of (own := RJ7) rfl (by decide +kernel) (Nat.le_of_ble_eq_true rfl) rfl (fun Γ h => ?_)
  refine w_iconst h (pc := 0) dJ7_fill_53178_0 ?_
  refine w_istore_n h (pc := 1) dJ7_fill_53178_1 (by decide) ?_
  refine w_aload_n h (pc := 2) dJ7_fill_53178_2 rfl ?_
  refine w_alen h (pc := 3) q 0 (hw u) rfl dJ7_fill_53178_3 ?_
  refine w_istore_n h (pc := 4) dJ7_fill_53178_4 (by decide) ?_
  have lp : ∀ (m i : Nat), n < i + m → i ≤ n → WW Γ 4 (uA u q (fi (u.2 q) i z)) 5 [(0, .ref (a q)), (1, .int (iI z)), (2, .int (iI (i : Int))), (3, .int (iI (n : Int)))] [] := by
    intro m
    induction m with
    | zero => intro i h1 h2; exfalso; omega
    | succ m ih =>
      intro i h1 h2
      refine w_iload_n h (pc := 5) dJ7_fill_53178_5 rfl ?_
      refine w_iload_n h (pc := 6) dJ7_fill_53178_6 rfl ?_
      refine w_icmp_ge h (pc := 7) (tgt := 20) dJ7_fill_53178_7 (by decide) (by omega) (by omega) (fun c => ?_) (fun c => ?_)
      · have e : i = n := by omega
        subst e
        exact w_vret h (pc := 20) rfl dJ7_fill_53178_20 (Nat.le_of_ble_eq_true rfl) (Nat.le_of_ble_eq_true rfl) ⟨rfl, rfl⟩
      · refine w_aload_n h (pc := 10) dJ7_fill_53178_10 rfl ?_
        refine w_iload_n h (pc := 11) dJ7_fill_53178_11 rfl ?_
        refine w_iload_n h (pc := 12) dJ7_fill_53178_12 rfl ?_
        refine w_iast h (pc := 13) q (hw _) (by omega) (by omega) dJ7_fill_53178_13 (uA u q (fi (u.2 q) (i + 1) z)) (by
          rw [uA_at, Int.toNat_natCast, upd_iA, fi_up]
          refine (hs _ _).trans ?_
          rw [uA_uA]
          rfl) rfl ?_
        refine w_iinc h (pc := 14) dJ7_fill_53178_14 rfl (by decide) ?_
        refine w_goto h (pc := 17) (tgt := 5) dJ7_fill_53178_17 (by decide) ?_
        exact WW.sub (by rfl) (ih (i + 1) (by omega) (by omega))
  have h0 := lp (n + 1) 0 (by omega) (by omega)
  have e0 : uA u q (fi (u.2 q) 0 z) = u := by
    have : fi (u.2 q) 0 z = u.2 q := by funext j; exact if_neg (Nat.not_lt_zero j)
    rw [this, uA_self]
  rw [e0] at h0
  exact WW.sub (by rfl) h0
end
section
theorem uS_2 (u : US) (k : Nat) (v : Int) : (uS u k v).2 = u.2 := rfl
theorem uA_1 (u : US) (k : Nat) (g : Nat → Int) : (uA u k g).1 = u.1 := rfl
theorem gather_fin {V m c e : Nat} {t : List (Nat × Nat)} (h : TV V m t) (hV : V ≤ 12) (he : ∀ j (hj : j < t.length), e ≤ j → c * 14 + 14 ≤ (t[j]).1) {S K : Int} {f : Nat → Int} (h1 : ∀ j, j < 13 → f j = (ow t (c * 14) e j : Int)) (h2 : S = (sm (ow t (c * 14) e) 13 : Int)) (h3 : K = (kd (ow t (c * 14) e) 13 : Int)) :
    (∀ w, w ≤ V → f w = (gt t (c * 14 + w + 1) : Int)) ∧ S = (rfS t c V : Int) ∧ K = (kd (fun w => gt t (c * 14 + w + 1)) (V + 1) : Int) := by
  have e1 : ∀ w, w < 13 → ow t (c * 14) e w = gt t (c * 14 + w + 1) := fun w hw => ow_end hw he
  obtain ⟨s1, s2⟩ := gt_sum13 (c := c) h hV
  refine ⟨fun w hw => by rw [h1 w (by omega), e1 w (by omega)], ?_, ?_⟩
  · rw [h2, sm_cg e1, s1]
    rfl
  · rw [h3]
    unfold kd at s2 ⊢
    rw [sm_cg (g := fun i => if 0 < gt t (c * 14 + i + 1) then 1 else 0) (fun i hi => by rw [e1 i hi]), s2]
theorem rfS_le {V m c : Nat} {t : List (Nat × Nat)} (h : TV V m t) (hV : V ≤ 12) : rfS t c V ≤ 13 * (4 * m) := by
  refine Nat.le_trans (sm_bound (V + 1) (B := 4 * m) fun i _ => gt_le fun b hb => (h.2.2.2 b hb).2.2.2) (Nat.mul_le_mul_right _ (by omega))
theorem gt_rfS {V c w : Nat} {t : List (Nat × Nat)} (hw : w ≤ V) : gt t (c * 14 + w + 1) ≤ rfS t c V := sm_one (f := fun w => gt t (c * 14 + w + 1)) w (by omega)
end
section
theorem dX1_blend_0 : decode cX1_blend 0 = .ok (.aload_n 0, 1) := by decide +kernel
theorem dX1_blend_1 : decode cX1_blend 1 = .ok (.getfield 9, 3) := by decide +kernel
theorem dX1_blend_4 : decode cX1_blend 4 = .ok (.tableswitch 127 0 2 #[28, 69, 102], 28) := by decide +kernel
theorem dX1_blend_32 : decode cX1_blend 32 = .ok (.lload_n 1, 1) := by decide +kernel
theorem dX1_blend_33 : decode cX1_blend 33 = .ok (.ldc2_w 88, 3) := by decide +kernel
theorem dX1_blend_36 : decode cX1_blend 36 = .ok (.lmul, 1) := by decide +kernel
theorem dX1_blend_37 : decode cX1_blend 37 = .ok (.aload_n 0, 1) := by decide +kernel
theorem dX1_blend_38 : decode cX1_blend 38 = .ok (.getfield 15, 3) := by decide +kernel
theorem dX1_blend_41 : decode cX1_blend 41 = .ok (.i2l, 1) := by decide +kernel
theorem dX1_blend_42 : decode cX1_blend 42 = .ok (.ladd, 1) := by decide +kernel
theorem dX1_blend_43 : decode cX1_blend 43 = .ok (.ldc2_w 90, 3) := by decide +kernel
theorem dX1_blend_46 : decode cX1_blend 46 = .ok (.lmul, 1) := by decide +kernel
theorem dX1_blend_47 : decode cX1_blend 47 = .ok (.aload_n 0, 1) := by decide +kernel
theorem dX1_blend_48 : decode cX1_blend 48 = .ok (.getfield 25, 3) := by decide +kernel
theorem dX1_blend_51 : decode cX1_blend 51 = .ok (.ldc2_w 88, 3) := by decide +kernel
theorem dX1_blend_54 : decode cX1_blend 54 = .ok (.lmul, 1) := by decide +kernel
theorem dX1_blend_55 : decode cX1_blend 55 = .ok (.aload_n 0, 1) := by decide +kernel
theorem dX1_blend_56 : decode cX1_blend 56 = .ok (.getfield 15, 3) := by decide +kernel
theorem dX1_blend_59 : decode cX1_blend 59 = .ok (.aload_n 0, 1) := by decide +kernel
theorem dX1_blend_60 : decode cX1_blend 60 = .ok (.getfield 32, 3) := by decide +kernel
theorem dX1_blend_63 : decode cX1_blend 63 = .ok (.getfield 37, 3) := by decide +kernel
theorem dX1_blend_66 : decode cX1_blend 66 = .ok (.iconst 1, 1) := by decide +kernel
theorem dX1_blend_67 : decode cX1_blend 67 = .ok (.iadd, 1) := by decide +kernel
theorem dX1_blend_68 : decode cX1_blend 68 = .ok (.imul, 1) := by decide +kernel
theorem dX1_blend_69 : decode cX1_blend 69 = .ok (.i2l, 1) := by decide +kernel
theorem dX1_blend_70 : decode cX1_blend 70 = .ok (.ladd, 1) := by decide +kernel
theorem dX1_blend_71 : decode cX1_blend 71 = .ok (.ldiv, 1) := by decide +kernel
theorem dX1_blend_72 : decode cX1_blend 72 = .ok (.lreturn, 1) := by decide +kernel
theorem dX1_blend_73 : decode cX1_blend 73 = .ok (.aload_n 0, 1) := by decide +kernel
theorem dX1_blend_74 : decode cX1_blend 74 = .ok (.getfield 15, 3) := by decide +kernel
theorem dX1_blend_77 : decode cX1_blend 77 = .ok (.i2l, 1) := by decide +kernel
theorem dX1_blend_78 : decode cX1_blend 78 = .ok (.lload_n 1, 1) := by decide +kernel
theorem dX1_blend_79 : decode cX1_blend 79 = .ok (.ldc2_w 90, 3) := by decide +kernel
theorem dX1_blend_82 : decode cX1_blend 82 = .ok (.lmul, 1) := by decide +kernel
theorem dX1_blend_83 : decode cX1_blend 83 = .ok (.aload_n 0, 1) := by decide +kernel
theorem dX1_blend_84 : decode cX1_blend 84 = .ok (.getfield 25, 3) := by decide +kernel
theorem dX1_blend_87 : decode cX1_blend 87 = .ok (.ldiv, 1) := by decide +kernel
theorem dX1_blend_88 : decode cX1_blend 88 = .ok (.lmul, 1) := by decide +kernel
theorem dX1_blend_89 : decode cX1_blend 89 = .ok (.sipush 1000, 3) := by decide +kernel
theorem dX1_blend_92 : decode cX1_blend 92 = .ok (.aload_n 0, 1) := by decide +kernel
theorem dX1_blend_93 : decode cX1_blend 93 = .ok (.getfield 15, 3) := by decide +kernel
theorem dX1_blend_96 : decode cX1_blend 96 = .ok (.isub, 1) := by decide +kernel
theorem dX1_blend_97 : decode cX1_blend 97 = .ok (.i2l, 1) := by decide +kernel
theorem dX1_blend_98 : decode cX1_blend 98 = .ok (.lload_n 3, 1) := by decide +kernel
theorem dX1_blend_99 : decode cX1_blend 99 = .ok (.lmul, 1) := by decide +kernel
theorem dX1_blend_100 : decode cX1_blend 100 = .ok (.ladd, 1) := by decide +kernel
theorem dX1_blend_101 : decode cX1_blend 101 = .ok (.ldc2_w 88, 3) := by decide +kernel
theorem dX1_blend_104 : decode cX1_blend 104 = .ok (.ldiv, 1) := by decide +kernel
theorem dX1_blend_105 : decode cX1_blend 105 = .ok (.lreturn, 1) := by decide +kernel
theorem dX1_blend_106 : decode cX1_blend 106 = .ok (.lload_n 1, 1) := by decide +kernel
theorem dX1_blend_107 : decode cX1_blend 107 = .ok (.ldc2_w 90, 3) := by decide +kernel
theorem dX1_blend_110 : decode cX1_blend 110 = .ok (.lmul, 1) := by decide +kernel
theorem dX1_blend_111 : decode cX1_blend 111 = .ok (.aload_n 0, 1) := by decide +kernel
theorem dX1_blend_112 : decode cX1_blend 112 = .ok (.getfield 29, 3) := by decide +kernel
theorem dX1_blend_115 : decode cX1_blend 115 = .ok (.i2l, 1) := by decide +kernel
theorem dX1_blend_116 : decode cX1_blend 116 = .ok (.lload_n 3, 1) := by decide +kernel
theorem dX1_blend_117 : decode cX1_blend 117 = .ok (.lmul, 1) := by decide +kernel
theorem dX1_blend_118 : decode cX1_blend 118 = .ok (.ladd, 1) := by decide +kernel
theorem dX1_blend_119 : decode cX1_blend 119 = .ok (.aload_n 0, 1) := by decide +kernel
theorem dX1_blend_120 : decode cX1_blend 120 = .ok (.getfield 25, 3) := by decide +kernel
theorem dX1_blend_123 : decode cX1_blend 123 = .ok (.aload_n 0, 1) := by decide +kernel
theorem dX1_blend_124 : decode cX1_blend 124 = .ok (.getfield 29, 3) := by decide +kernel
theorem dX1_blend_127 : decode cX1_blend 127 = .ok (.i2l, 1) := by decide +kernel
theorem dX1_blend_128 : decode cX1_blend 128 = .ok (.ladd, 1) := by decide +kernel
theorem dX1_blend_129 : decode cX1_blend 129 = .ok (.ldiv, 1) := by decide +kernel
theorem dX1_blend_130 : decode cX1_blend 130 = .ok (.lreturn, 1) := by decide +kernel
theorem dX1_blend_131 : decode cX1_blend 131 = .ok (.lconst 0, 1) := by decide +kernel
theorem dX1_blend_132 : decode cX1_blend 132 = .ok (.lload_n 1, 1) := by decide +kernel
theorem dX1_blend_133 : decode cX1_blend 133 = .ok (.ldc2_w 88, 3) := by decide +kernel
theorem dX1_blend_136 : decode cX1_blend 136 = .ok (.lmul, 1) := by decide +kernel
theorem dX1_blend_137 : decode cX1_blend 137 = .ok (.aload_n 0, 1) := by decide +kernel
theorem dX1_blend_138 : decode cX1_blend 138 = .ok (.getfield 15, 3) := by decide +kernel
theorem dX1_blend_141 : decode cX1_blend 141 = .ok (.i2l, 1) := by decide +kernel
theorem dX1_blend_142 : decode cX1_blend 142 = .ok (.lsub, 1) := by decide +kernel
theorem dX1_blend_143 : decode cX1_blend 143 = .ok (.invokestatic 92, 3) := by decide +kernel
theorem dX1_blend_146 : decode cX1_blend 146 = .ok (.lstore 5, 2) := by decide +kernel
theorem dX1_blend_148 : decode cX1_blend 148 = .ok (.lload 5, 2) := by decide +kernel
theorem dX1_blend_150 : decode cX1_blend 150 = .ok (.ldc2_w 90, 3) := by decide +kernel
theorem dX1_blend_153 : decode cX1_blend 153 = .ok (.lmul, 1) := by decide +kernel
theorem dX1_blend_154 : decode cX1_blend 154 = .ok (.aload_n 0, 1) := by decide +kernel
theorem dX1_blend_155 : decode cX1_blend 155 = .ok (.getfield 15, 3) := by decide +kernel
theorem dX1_blend_158 : decode cX1_blend 158 = .ok (.aload_n 0, 1) := by decide +kernel
theorem dX1_blend_159 : decode cX1_blend 159 = .ok (.getfield 29, 3) := by decide +kernel
theorem dX1_blend_162 : decode cX1_blend 162 = .ok (.imul, 1) := by decide +kernel
theorem dX1_blend_163 : decode cX1_blend 163 = .ok (.i2l, 1) := by decide +kernel
theorem dX1_blend_164 : decode cX1_blend 164 = .ok (.lload_n 3, 1) := by decide +kernel
theorem dX1_blend_165 : decode cX1_blend 165 = .ok (.lmul, 1) := by decide +kernel
theorem dX1_blend_166 : decode cX1_blend 166 = .ok (.ladd, 1) := by decide +kernel
theorem dX1_blend_167 : decode cX1_blend 167 = .ok (.aload_n 0, 1) := by decide +kernel
theorem dX1_blend_168 : decode cX1_blend 168 = .ok (.getfield 25, 3) := by decide +kernel
theorem dX1_blend_171 : decode cX1_blend 171 = .ok (.ldc2_w 88, 3) := by decide +kernel
theorem dX1_blend_174 : decode cX1_blend 174 = .ok (.lmul, 1) := by decide +kernel
theorem dX1_blend_175 : decode cX1_blend 175 = .ok (.ldiv, 1) := by decide +kernel
theorem dX1_blend_176 : decode cX1_blend 176 = .ok (.lreturn, 1) := by decide +kernel
theorem dX1_gather_0 : decode cX1_gather 0 = .ok (.aload_n 0, 1) := by decide +kernel
theorem dX1_gather_1 : decode cX1_gather 1 = .ok (.getfield 22, 3) := by decide +kernel
theorem dX1_gather_4 : decode cX1_gather 4 = .ok (.iconst 0, 1) := by decide +kernel
theorem dX1_gather_5 : decode cX1_gather 5 = .ok (.invokestatic 42, 3) := by decide +kernel
theorem dX1_gather_8 : decode cX1_gather 8 = .ok (.aload_n 0, 1) := by decide +kernel
theorem dX1_gather_9 : decode cX1_gather 9 = .ok (.lconst 0, 1) := by decide +kernel
theorem dX1_gather_10 : decode cX1_gather 10 = .ok (.putfield 25, 3) := by decide +kernel
theorem dX1_gather_13 : decode cX1_gather 13 = .ok (.aload_n 0, 1) := by decide +kernel
theorem dX1_gather_14 : decode cX1_gather 14 = .ok (.iconst 0, 1) := by decide +kernel
theorem dX1_gather_15 : decode cX1_gather 15 = .ok (.putfield 29, 3) := by decide +kernel
theorem dX1_gather_18 : decode cX1_gather 18 = .ok (.iload_n 2, 1) := by decide +kernel
theorem dX1_gather_19 : decode cX1_gather 19 = .ok (.bipush 14, 2) := by decide +kernel
theorem dX1_gather_21 : decode cX1_gather 21 = .ok (.imul, 1) := by decide +kernel
theorem dX1_gather_22 : decode cX1_gather 22 = .ok (.istore_n 3, 1) := by decide +kernel
theorem dX1_gather_23 : decode cX1_gather 23 = .ok (.aload_n 1, 1) := by decide +kernel
theorem dX1_gather_24 : decode cX1_gather 24 = .ok (.iload_n 3, 1) := by decide +kernel
theorem dX1_gather_25 : decode cX1_gather 25 = .ok (.invokevirtual 73, 3) := by decide +kernel
theorem dX1_gather_28 : decode cX1_gather 28 = .ok (.istore 4, 2) := by decide +kernel
theorem dX1_gather_30 : decode cX1_gather 30 = .ok (.iload 4, 2) := by decide +kernel
theorem dX1_gather_32 : decode cX1_gather 32 = .ok (.aload_n 1, 1) := by decide +kernel
theorem dX1_gather_33 : decode cX1_gather 33 = .ok (.getfield 79, 3) := by decide +kernel
theorem dX1_gather_36 : decode cX1_gather 36 = .ok (.if_icmp .ge 89, 3) := by decide +kernel
theorem dX1_gather_39 : decode cX1_gather 39 = .ok (.aload_n 1, 1) := by decide +kernel
theorem dX1_gather_40 : decode cX1_gather 40 = .ok (.getfield 82, 3) := by decide +kernel
theorem dX1_gather_43 : decode cX1_gather 43 = .ok (.iload 4, 2) := by decide +kernel
theorem dX1_gather_45 : decode cX1_gather 45 = .ok (.iaload, 1) := by decide +kernel
theorem dX1_gather_46 : decode cX1_gather 46 = .ok (.iload_n 3, 1) := by decide +kernel
theorem dX1_gather_47 : decode cX1_gather 47 = .ok (.bipush 14, 2) := by decide +kernel
theorem dX1_gather_49 : decode cX1_gather 49 = .ok (.iadd, 1) := by decide +kernel
theorem dX1_gather_50 : decode cX1_gather 50 = .ok (.if_icmp .ge 75, 3) := by decide +kernel
theorem dX1_gather_53 : decode cX1_gather 53 = .ok (.aload_n 1, 1) := by decide +kernel
theorem dX1_gather_54 : decode cX1_gather 54 = .ok (.getfield 82, 3) := by decide +kernel
theorem dX1_gather_57 : decode cX1_gather 57 = .ok (.iload 4, 2) := by decide +kernel
theorem dX1_gather_59 : decode cX1_gather 59 = .ok (.iaload, 1) := by decide +kernel
theorem dX1_gather_60 : decode cX1_gather 60 = .ok (.iload_n 3, 1) := by decide +kernel
theorem dX1_gather_61 : decode cX1_gather 61 = .ok (.isub, 1) := by decide +kernel
theorem dX1_gather_62 : decode cX1_gather 62 = .ok (.iconst 1, 1) := by decide +kernel
theorem dX1_gather_63 : decode cX1_gather 63 = .ok (.isub, 1) := by decide +kernel
theorem dX1_gather_64 : decode cX1_gather 64 = .ok (.istore 5, 2) := by decide +kernel
theorem dX1_gather_66 : decode cX1_gather 66 = .ok (.iload 5, 2) := by decide +kernel
theorem dX1_gather_68 : decode cX1_gather 68 = .ok (.ifCond .lt 51, 3) := by decide +kernel
theorem dX1_gather_71 : decode cX1_gather 71 = .ok (.iload 5, 2) := by decide +kernel
theorem dX1_gather_73 : decode cX1_gather 73 = .ok (.bipush 12, 2) := by decide +kernel
theorem dX1_gather_75 : decode cX1_gather 75 = .ok (.if_icmp .gt 44, 3) := by decide +kernel
theorem dX1_gather_78 : decode cX1_gather 78 = .ok (.aload_n 0, 1) := by decide +kernel
theorem dX1_gather_79 : decode cX1_gather 79 = .ok (.getfield 22, 3) := by decide +kernel
theorem dX1_gather_82 : decode cX1_gather 82 = .ok (.iload 5, 2) := by decide +kernel
theorem dX1_gather_84 : decode cX1_gather 84 = .ok (.aload_n 1, 1) := by decide +kernel
theorem dX1_gather_85 : decode cX1_gather 85 = .ok (.getfield 85, 3) := by decide +kernel
theorem dX1_gather_88 : decode cX1_gather 88 = .ok (.iload 4, 2) := by decide +kernel
theorem dX1_gather_90 : decode cX1_gather 90 = .ok (.iaload, 1) := by decide +kernel
theorem dX1_gather_91 : decode cX1_gather 91 = .ok (.iastore, 1) := by decide +kernel
theorem dX1_gather_92 : decode cX1_gather 92 = .ok (.aload_n 0, 1) := by decide +kernel
theorem dX1_gather_93 : decode cX1_gather 93 = .ok (.dup, 1) := by decide +kernel
theorem dX1_gather_94 : decode cX1_gather 94 = .ok (.getfield 25, 3) := by decide +kernel
theorem dX1_gather_97 : decode cX1_gather 97 = .ok (.aload_n 1, 1) := by decide +kernel
theorem dX1_gather_98 : decode cX1_gather 98 = .ok (.getfield 85, 3) := by decide +kernel
theorem dX1_gather_101 : decode cX1_gather 101 = .ok (.iload 4, 2) := by decide +kernel
theorem dX1_gather_103 : decode cX1_gather 103 = .ok (.iaload, 1) := by decide +kernel
theorem dX1_gather_104 : decode cX1_gather 104 = .ok (.i2l, 1) := by decide +kernel
theorem dX1_gather_105 : decode cX1_gather 105 = .ok (.ladd, 1) := by decide +kernel
theorem dX1_gather_106 : decode cX1_gather 106 = .ok (.putfield 25, 3) := by decide +kernel
theorem dX1_gather_109 : decode cX1_gather 109 = .ok (.aload_n 0, 1) := by decide +kernel
theorem dX1_gather_110 : decode cX1_gather 110 = .ok (.dup, 1) := by decide +kernel
theorem dX1_gather_111 : decode cX1_gather 111 = .ok (.getfield 29, 3) := by decide +kernel
theorem dX1_gather_114 : decode cX1_gather 114 = .ok (.iconst 1, 1) := by decide +kernel
theorem dX1_gather_115 : decode cX1_gather 115 = .ok (.iadd, 1) := by decide +kernel
theorem dX1_gather_116 : decode cX1_gather 116 = .ok (.putfield 29, 3) := by decide +kernel
theorem dX1_gather_119 : decode cX1_gather 119 = .ok (.iinc 4 1, 3) := by decide +kernel
theorem dX1_gather_122 : decode cX1_gather 122 = .ok (.goto (-92), 3) := by decide +kernel
theorem dX1_gather_125 : decode cX1_gather 125 = .ok (.return_, 1) := by decide +kernel
theorem dX1_refine_0 : decode cX1_refine 0 = .ok (.aload_n 0, 1) := by decide +kernel
theorem dX1_refine_1 : decode cX1_refine 1 = .ok (.getfield 9, 3) := by decide +kernel
theorem dX1_refine_4 : decode cX1_refine 4 = .ok (.iconst 4, 1) := by decide +kernel
theorem dX1_refine_5 : decode cX1_refine 5 = .ok (.if_icmp .ne 18, 3) := by decide +kernel
theorem dX1_refine_8 : decode cX1_refine 8 = .ok (.iload_n 1, 1) := by decide +kernel
theorem dX1_refine_9 : decode cX1_refine 9 = .ok (.aload_n 0, 1) := by decide +kernel
theorem dX1_refine_10 : decode cX1_refine 10 = .ok (.getfield 32, 3) := by decide +kernel
theorem dX1_refine_13 : decode cX1_refine 13 = .ok (.getfield 55, 3) := by decide +kernel
theorem dX1_refine_16 : decode cX1_refine 16 = .ok (.if_icmp .ge 7, 3) := by decide +kernel
theorem dX1_refine_19 : decode cX1_refine 19 = .ok (.iconst 1, 1) := by decide +kernel
theorem dX1_refine_20 : decode cX1_refine 20 = .ok (.goto 4, 3) := by decide +kernel
theorem dX1_refine_23 : decode cX1_refine 23 = .ok (.iconst 0, 1) := by decide +kernel
theorem dX1_refine_24 : decode cX1_refine 24 = .ok (.istore_n 3, 1) := by decide +kernel
theorem dX1_refine_25 : decode cX1_refine 25 = .ok (.aload_n 0, 1) := by decide +kernel
theorem dX1_refine_26 : decode cX1_refine 26 = .ok (.iload_n 3, 1) := by decide +kernel
theorem dX1_refine_27 : decode cX1_refine 27 = .ok (.ifCond .eq 14, 3) := by decide +kernel
theorem dX1_refine_30 : decode cX1_refine 30 = .ok (.aload_n 0, 1) := by decide +kernel
theorem dX1_refine_31 : decode cX1_refine 31 = .ok (.getfield 32, 3) := by decide +kernel
theorem dX1_refine_34 : decode cX1_refine 34 = .ok (.iload_n 1, 1) := by decide +kernel
theorem dX1_refine_35 : decode cX1_refine 35 = .ok (.invokevirtual 58, 3) := by decide +kernel
theorem dX1_refine_38 : decode cX1_refine 38 = .ok (.goto 11, 3) := by decide +kernel
theorem dX1_refine_41 : decode cX1_refine 41 = .ok (.aload_n 0, 1) := by decide +kernel
theorem dX1_refine_42 : decode cX1_refine 42 = .ok (.getfield 32, 3) := by decide +kernel
theorem dX1_refine_45 : decode cX1_refine 45 = .ok (.iload_n 1, 1) := by decide +kernel
theorem dX1_refine_46 : decode cX1_refine 46 = .ok (.invokevirtual 62, 3) := by decide +kernel
theorem dX1_refine_49 : decode cX1_refine 49 = .ok (.iload_n 2, 1) := by decide +kernel
theorem dX1_refine_50 : decode cX1_refine 50 = .ok (.invokevirtual 65, 3) := by decide +kernel
theorem dX1_refine_53 : decode cX1_refine 53 = .ok (.aload_n 0, 1) := by decide +kernel
theorem dX1_refine_54 : decode cX1_refine 54 = .ok (.getfield 9, 3) := by decide +kernel
theorem dX1_refine_57 : decode cX1_refine 57 = .ok (.ifCond .eq 13, 3) := by decide +kernel
theorem dX1_refine_60 : decode cX1_refine 60 = .ok (.aload_n 0, 1) := by decide +kernel
theorem dX1_refine_61 : decode cX1_refine 61 = .ok (.getfield 25, 3) := by decide +kernel
theorem dX1_refine_64 : decode cX1_refine 64 = .ok (.lconst 0, 1) := by decide +kernel
theorem dX1_refine_65 : decode cX1_refine 65 = .ok (.lcmp, 1) := by decide +kernel
theorem dX1_refine_66 : decode cX1_refine 66 = .ok (.ifCond .gt 4, 3) := by decide +kernel
theorem dX1_refine_69 : decode cX1_refine 69 = .ok (.return_, 1) := by decide +kernel
theorem dX1_refine_70 : decode cX1_refine 70 = .ok (.iconst 0, 1) := by decide +kernel
theorem dX1_refine_71 : decode cX1_refine 71 = .ok (.istore 4, 2) := by decide +kernel
theorem dX1_refine_73 : decode cX1_refine 73 = .ok (.iload 4, 2) := by decide +kernel
theorem dX1_refine_75 : decode cX1_refine 75 = .ok (.aload_n 0, 1) := by decide +kernel
theorem dX1_refine_76 : decode cX1_refine 76 = .ok (.getfield 32, 3) := by decide +kernel
theorem dX1_refine_79 : decode cX1_refine 79 = .ok (.getfield 37, 3) := by decide +kernel
theorem dX1_refine_82 : decode cX1_refine 82 = .ok (.if_icmp .gt 37, 3) := by decide +kernel
theorem dX1_refine_85 : decode cX1_refine 85 = .ok (.aload_n 0, 1) := by decide +kernel
theorem dX1_refine_86 : decode cX1_refine 86 = .ok (.getfield 18, 3) := by decide +kernel
theorem dX1_refine_89 : decode cX1_refine 89 = .ok (.iload 4, 2) := by decide +kernel
theorem dX1_refine_91 : decode cX1_refine 91 = .ok (.aload_n 0, 1) := by decide +kernel
theorem dX1_refine_92 : decode cX1_refine 92 = .ok (.aload_n 0, 1) := by decide +kernel
theorem dX1_refine_93 : decode cX1_refine 93 = .ok (.getfield 22, 3) := by decide +kernel
theorem dX1_refine_96 : decode cX1_refine 96 = .ok (.iload 4, 2) := by decide +kernel
theorem dX1_refine_98 : decode cX1_refine 98 = .ok (.iaload, 1) := by decide +kernel
theorem dX1_refine_99 : decode cX1_refine 99 = .ok (.i2l, 1) := by decide +kernel
theorem dX1_refine_100 : decode cX1_refine 100 = .ok (.aload_n 0, 1) := by decide +kernel
theorem dX1_refine_101 : decode cX1_refine 101 = .ok (.getfield 18, 3) := by decide +kernel
theorem dX1_refine_104 : decode cX1_refine 104 = .ok (.iload 4, 2) := by decide +kernel
theorem dX1_refine_106 : decode cX1_refine 106 = .ok (.iaload, 1) := by decide +kernel
theorem dX1_refine_107 : decode cX1_refine 107 = .ok (.i2l, 1) := by decide +kernel
theorem dX1_refine_108 : decode cX1_refine 108 = .ok (.invokevirtual 69, 3) := by decide +kernel
theorem dX1_refine_111 : decode cX1_refine 111 = .ok (.l2i, 1) := by decide +kernel
theorem dX1_refine_112 : decode cX1_refine 112 = .ok (.iastore, 1) := by decide +kernel
theorem dX1_refine_113 : decode cX1_refine 113 = .ok (.iinc 4 1, 3) := by decide +kernel
theorem dX1_refine_116 : decode cX1_refine 116 = .ok (.goto (-43), 3) := by decide +kernel
theorem dX1_refine_119 : decode cX1_refine 119 = .ok (.return_, 1) := by decide +kernel
set_option maxHeartbeats 4000000 in
set_option maxRecDepth 100000 in
theorem mX1_gather (l : Launch) (D : va_G) (κ a : Nat → Nat) (ε : Nat) (V m : Nat) (u : US) (hV : V ≤ 12) (hm : m ≤ 800) (i : Nat) (hi : i < 8) (t : List (Nat × Nat)) (hT : TR u i t) (hv : TV V m t) (c : Nat) (hc : c < 2744) : Ct (W0 κ a) l D κ ε yX1_gather cX1_gather 6 none 1 23 0 0 u [.ref (a 2), .ref (a (30 + 3 * i)), .int (iI (c : Int))] (fun v u' => v = none ∧ Fr [8, 9] [10] u u' ∧ (∀ w, w ≤ V → u'.2 10 w = (gt t (c * 14 + w + 1) : Int)) ∧ u'.1 8 = (rfS t c V : Int) ∧ u'.1 9 = (kd (fun w => gt t (c * 14 + w + 1)) (V + 1) : Int)) := by
  have hO := hv.O hm
  have hs := hv.1
  have hp := hv.2.1
  have hlen := hv.2.2.1
  have hbl := bw_le t (c * 14)
  refine Ct.of (own := RX1) rfl (by decide +kernel) (Nat.le_of_ble_eq_true rfl) rfl (fun Γ h => ?_)
  refine w_aload_n h (pc := 0) dX1_gather_0 rfl ?_
  refine g2_own h (pc := 1) wm_61 dX1_gather_1 ?_
  refine w_iconst h (pc := 4) dX1_gather_4 ?_
  refine w_callS2 h (pc := 5) (mJ7_fill l D κ a ε u 10 13 0 (by decide) (fun _ => rfl) (fun _ _ => rfl)) (gdS wm_288 wm_289 wm_290 wm_291) (by decide +kernel) ⟨(Nat.le_of_ble_eq_true rfl), (Nat.le_of_ble_eq_true rfl)⟩ ⟨(Nat.le_of_ble_eq_true rfl), (Nat.le_of_ble_eq_true rfl)⟩ (fun _ _ _ => ⟨rfl, rfl⟩) (Nat.le_of_ble_eq_true rfl) dX1_gather_5 (fun v1 u1 hp1 => ?_)
  obtain ⟨rfl, e1⟩ := hp1
  subst e1
  simp only [Option.toList_none, List.nil_append]
  refine w_aload_n h (pc := 8) dX1_gather_8 rfl ?_
  refine w_lconst h (pc := 9) (z := 0) dX1_gather_9 (by decide) ?_
  refine p2_sum h (pc := 10) wm_62 dX1_gather_10 ?_
  refine w_aload_n h (pc := 13) dX1_gather_13 rfl ?_
  refine w_iconst h (pc := 14) dX1_gather_14 ?_
  refine p2_kinds h (pc := 15) wm_63 dX1_gather_15 ?_
  refine w_iload_n h (pc := 18) dX1_gather_18 rfl ?_
  refine w_bipush h (pc := 19) dX1_gather_19 (by decide) ?_
  refine w_imul h (pc := 21) dX1_gather_21 ?_
  refine w_istore_n h (pc := 22) dX1_gather_22 (by decide) ?_
  have hF0 : Fr [8, 9] [10] u (uS (uS (uA u 10 (fi (u.2 10) 13 0)) 8 0) 9 0) := ((Fr.A (by simp)).tr (Fr.S (by simp))).tr (Fr.S (by simp))
  have hT0 : TR (uS (uS (uA u 10 (fi (u.2 10) 13 0)) 8 0) 9 0) i t := hT.of hi hF0 (by simp [tS]) (by simp [tG])
  refine w_aload_n h (pc := 23) dX1_gather_23 rfl ?_
  refine w_iload_n h (pc := 24) dX1_gather_24 rfl ?_
  refine w_callV1 h (pc := 25) (mX4_keysBelow l D κ a ε (uS (uS (uA u 10 (fi (u.2 10) 13 0)) 8 0) 9 0) i hi t hT0 hO (c * 14) (by omega)) _ (ws_T (by omega)) rfl (gdV wm_292 wm_193 wm_194 wm_47 wm_195) (by decide +kernel) ⟨(Nat.le_of_ble_eq_true rfl), (Nat.le_of_ble_eq_true rfl)⟩ ⟨(Nat.le_of_ble_eq_true rfl), (Nat.le_of_ble_eq_true rfl)⟩ (fun _ _ _ => ⟨rfl, rfl⟩) (Nat.le_of_ble_eq_true rfl) dX1_gather_25 (fun v2 u2 hp2 => ?_)
  obtain ⟨rfl, e2⟩ := hp2
  subst e2
  simp only [Option.toList_some, List.cons_append, List.nil_append]
  refine w_istore h (pc := 28) dX1_gather_28 (by decide) ?_
  have lp30 : ∀ (n at' : Nat) (w : US), t.length < at' + n → bw t (c * 14) ≤ at' → at' ≤ t.length → Fr [8, 9] [10] u w → (∀ j, j < 13 → w.2 10 j = (ow t (c * 14) at' j : Int)) → w.1 8 = (sm (ow t (c * 14) at') 13 : Int) → w.1 9 = (kd (ow t (c * 14) at') 13 : Int) → WW Γ 6 w 30 [(0, .ref (a 2)), (1, .ref (a (30 + 3 * i))), (2, .int (iI (c : Int))), (3, .int (iI ((c * 14 : Nat) : Int))), (4, .int (iI (at' : Int)))] [] := by
    intro n9
    induction n9 with
    | zero => intro at' w hn hge hle hF hown hS hK; exfalso; omega
    | succ n9 ih =>
      intro at' w hn hge hle hF hown hS hK
      have hTw : TR w i t := hT.of hi hF (by simp [tS]) (by simp [tG])
      refine w_iload h (pc := 30) dX1_gather_30 rfl ?_
      refine w_aload_n h (pc := 32) dX1_gather_32 rfl ?_
      refine gT_size h (pc := 33) (by omega) hTw.1 wm_285 dX1_gather_33 ?_
      refine w_icmp_ge h (pc := 36) (tgt := 125) dX1_gather_36 (by decide) (by omega) (by omega) (fun c36 => ?_) (fun c36 => ?_)
      · have hend : ∀ j (hj : j < t.length), at' ≤ j → c * 14 + 14 ≤ (t[j]).1 := by
          intro j hj hle
          first
          | (exfalso; omega)
          | (have h2 := (List.getElem?_eq_some_iff.mp hb).2
             rcases Nat.eq_or_lt_of_le hle with e | e
             · subst e; rw [h2]; omega
             · have h1 := So_lt hs e hj
               rw [h2] at h1
               omega)
        exact w_vret h (pc := 125) rfl dX1_gather_125 (Nat.le_of_ble_eq_true rfl) (Nat.le_of_ble_eq_true rfl) ⟨rfl, hF, gather_fin hv hV hend hown hS hK⟩
      · obtain ⟨b, hb⟩ := getN (t := t) (j := at') (by omega)
        have hkv := (hTw.2 _ b hb).1
        have hcv := (hTw.2 _ b hb).2
        have hbb := TO.at hO hb
        have hdg := hv.2.2.2 b (List.mem_of_getElem? hb)
        have hbw := bw_at (k := c * 14) hs hb
        refine w_aload_n h (pc := 39) dX1_gather_39 rfl ?_
        refine gT_keys h (pc := 40) (by omega) wm_286 dX1_gather_40 ?_
        refine w_iload h (pc := 43) dX1_gather_43 rfl ?_
        refine ld_keys h (pc := 45) (by omega) (by omega) hkv dX1_gather_45 ?_
        refine w_iload_n h (pc := 46) dX1_gather_46 rfl ?_
        refine w_bipush h (pc := 47) dX1_gather_47 (by decide) ?_
        refine w_iadd h (pc := 49) dX1_gather_49 ?_
        refine w_icmp_ge h (pc := 50) (tgt := 125) dX1_gather_50 (by decide) (by omega) (by omega) (fun c50 => ?_) (fun c50 => ?_)
        · have hend : ∀ j (hj : j < t.length), at' ≤ j → c * 14 + 14 ≤ (t[j]).1 := by
            intro j hj hle
            first
            | (exfalso; omega)
            | (have h2 := (List.getElem?_eq_some_iff.mp hb).2
               rcases Nat.eq_or_lt_of_le hle with e | e
               · subst e; rw [h2]; omega
               · have h1 := So_lt hs e hj
                 rw [h2] at h1
                 omega)
          exact w_vret h (pc := 125) rfl dX1_gather_125 (Nat.le_of_ble_eq_true rfl) (Nat.le_of_ble_eq_true rfl) ⟨rfl, hF, gather_fin hv hV hend hown hS hK⟩
        · refine w_aload_n h (pc := 53) dX1_gather_53 rfl ?_
          refine gT_keys h (pc := 54) (by omega) wm_286 dX1_gather_54 ?_
          refine w_iload h (pc := 57) dX1_gather_57 rfl ?_
          refine ld_keys h (pc := 59) (by omega) (by omega) hkv dX1_gather_59 ?_
          refine w_iload_n h (pc := 60) dX1_gather_60 rfl ?_
          refine w_isub h (pc := 61) dX1_gather_61 ?_
          refine w_iconst h (pc := 62) dX1_gather_62 ?_
          refine w_isub h (pc := 63) dX1_gather_63 ?_
          obtain ⟨wd, hwd⟩ : ∃ wd : Nat, b.1 = c * 14 + wd + 1 := ⟨b.1 - c * 14 - 1, by omega⟩
          have hix : ((b.1 : Int) - ((c * 14 : Nat) : Int) - 1).toNat = wd := by omega
          refine w_istore h (pc := 64) dX1_gather_64 (by decide) ?_
          refine w_iload h (pc := 66) dX1_gather_66 rfl ?_
          refine w_if_lt h (pc := 68) (tgt := 119) dX1_gather_68 (by decide) (by omega) (fun c68 => by exfalso; omega) (fun c68 => ?_)
          refine w_iload h (pc := 71) dX1_gather_71 rfl ?_
          refine w_bipush h (pc := 73) dX1_gather_73 (by decide) ?_
          refine w_icmp_gt h (pc := 75) (tgt := 119) dX1_gather_75 (by decide) (by omega) (by omega) (fun c75 => by exfalso; omega) (fun c75 => ?_)
          refine w_aload_n h (pc := 78) dX1_gather_78 rfl ?_
          refine g2_own h (pc := 79) wm_61 dX1_gather_79 ?_
          refine w_iload h (pc := 82) dX1_gather_82 rfl ?_
          refine w_aload_n h (pc := 84) dX1_gather_84 rfl ?_
          refine gT_counts h (pc := 85) (by omega) wm_287 dX1_gather_85 ?_
          refine w_iload h (pc := 88) dX1_gather_88 rfl ?_
          refine ld_counts h (pc := 90) (by omega) (by omega) hcv dX1_gather_90 ?_
          refine st_own h (pc := 91) (by omega) dX1_gather_91 ?_
          refine w_aload_n h (pc := 92) dX1_gather_92 rfl ?_
          refine w_dup h (pc := 93) dX1_gather_93 rfl ?_
          refine g2_sum h (pc := 94) hS wm_62 dX1_gather_94 ?_
          refine w_aload_n h (pc := 97) dX1_gather_97 rfl ?_
          refine gT_counts h (pc := 98) (by omega) wm_287 dX1_gather_98 ?_
          refine w_iload h (pc := 101) dX1_gather_101 rfl ?_
          refine ld_counts h (pc := 103) (by omega) (by omega) ((congrFun (uA_ne _ _ (by omega)) _).trans hcv) dX1_gather_103 ?_
          refine w_i2l h (pc := 104) dX1_gather_104 (by omega) ?_
          refine w_ladd h (pc := 105) dX1_gather_105 ?_
          refine p2_sum h (pc := 106) wm_62 dX1_gather_106 ?_
          refine w_aload_n h (pc := 109) dX1_gather_109 rfl ?_
          refine w_dup h (pc := 110) dX1_gather_110 rfl ?_
          refine g2_kinds h (pc := 111) hK wm_63 dX1_gather_111 ?_
          refine w_iconst h (pc := 114) dX1_gather_114 ?_
          refine w_iadd h (pc := 115) dX1_gather_115 ?_
          refine p2_kinds h (pc := 116) wm_63 dX1_gather_116 ?_
          have hw1 := ow_s hs hb hwd
          have hw2 := ow_sum (n := 13) hs hp hb hwd (by omega)
          refine w_iinc h (pc := 119) dX1_gather_119 rfl (by decide) ?_
          refine w_goto h (pc := 122) (tgt := 30) dX1_gather_122 (by decide) ?_
          refine WW.sub (by rfl) (ih (at' + 1) _ (by omega) (by omega) (by omega) (((hF.tr (Fr.A (by simp))).tr (Fr.S (by simp))).tr (Fr.S (by simp))) (fun j hj => ?_) ?_ ?_)
          · rw [uS_2, uS_2, uA_at, hix, hw1.1 j]
            unfold upI
            split
            · rfl
            · exact hown j hj
          · rw [hw2.1]; rfl
          · rw [hw2.2]; rfl
  refine WW.sub (by rfl) (lp30 (t.length + 1) (bw t (c * 14)) _ (by omega) (by omega) (by omega) hF0 (fun j hj => ?_) ?_ ?_)
  · rw [uS_2, uS_2, uA_at, ow_0]
    exact if_pos hj
  · rw [sm_cg (g := fun _ => 0) (fun i _ => ow_0 i), sm_const]; rfl
  · unfold kd
    rw [sm_cg (g := fun _ => 0) (fun i _ => by rw [ow_0]; rfl), sm_const]; rfl

set_option maxHeartbeats 4000000 in
set_option maxRecDepth 100000 in
theorem mX1_blend (l : Launch) (D : va_G) (κ a : Nat → Nat) (ε : Nat) (V way num c S K p : Nat) (u : US) (hV : V ≤ 12) (hway : way ≤ 4) (hnum : 1 ≤ num ∧ num ≤ 1000) (hcS : c ≤ S) (hSm : S ≤ 1000000) (hKm : K ≤ 13) (hpm : p ≤ 1000000) (hS0 : way = 0 ∨ 0 < S) (eV : u.1 4 = (V : Int)) (ew : u.1 6 = (way : Int)) (en : u.1 7 = (num : Int)) (eS : u.1 8 = (S : Int)) (eK : u.1 9 = (K : Int)) : Ct (W0 κ a) l D κ ε yX1_blend cX1_blend 7 (some .long) 1 23 0 0 u [.ref (a 2), .long (lI (c : Int)), .long (lI (p : Int))] (fun v u' => v = some (.long (lI (bl 1000000 way num (V + 1) c S K p : Int))) ∧ u' = u) := by
  refine Ct.of (own := RX1) rfl (by decide +kernel) (Nat.le_of_ble_eq_true rfl) rfl (fun Γ h => ?_)
  refine w_aload_n h (pc := 0) dX1_blend_0 rfl ?_
  refine g2_way h (pc := 1) ew wm_58 dX1_blend_1 ?_
  rcases (by omega : way = 0 ∨ way = 1 ∨ way = 2 ∨ 3 ≤ way) with hw | hw | hw | hw
  · subst hw
    refine w_tabIn h (pc := 4) (tgt := 32) (off := 28) dX1_blend_4 (by omega) (by decide) (by decide) rfl (by decide) ?_
    refine w_lload_n h (pc := 32) dX1_blend_32 rfl ?_
    refine w_ldc2 h (pc := 33) (z := 1000) dX1_blend_33 wm_320 (by decide) ?_
    refine w_lmul h (pc := 36) dX1_blend_36 ?_
    refine w_aload_n h (pc := 37) dX1_blend_37 rfl ?_
    refine g2_number h (pc := 38) en wm_59 dX1_blend_38 ?_
    refine w_i2l h (pc := 41) dX1_blend_41 (by omega) ?_
    refine w_ladd h (pc := 42) dX1_blend_42 ?_
    refine w_ldc2 h (pc := 43) (z := 1000000) dX1_blend_43 wm_321 (by decide) ?_
    refine w_lmul h (pc := 46) dX1_blend_46 ?_
    refine w_aload_n h (pc := 47) dX1_blend_47 rfl ?_
    refine g2_sum h (pc := 48) eS wm_62 dX1_blend_48 ?_
    refine w_ldc2 h (pc := 51) (z := 1000) dX1_blend_51 wm_320 (by decide) ?_
    refine w_lmul h (pc := 54) dX1_blend_54 ?_
    refine w_aload_n h (pc := 55) dX1_blend_55 rfl ?_
    refine g2_number h (pc := 56) en wm_59 dX1_blend_56 ?_
    refine w_aload_n h (pc := 59) dX1_blend_59 rfl ?_
    refine g2_ledger h (pc := 60) wm_64 dX1_blend_60 ?_
    refine g1_words h (pc := 63) eV wm_307 dX1_blend_63 ?_
    refine w_iconst h (pc := 66) dX1_blend_66 ?_
    refine w_iadd h (pc := 67) dX1_blend_67 ?_
    refine w_imul h (pc := 68) dX1_blend_68 ?_
    obtain ⟨g, hg⟩ : ∃ g : Nat, g = num * (V + 1) := ⟨_, rfl⟩
    have hg1 : 1 ≤ g := by rw [hg]; exact Nat.mul_pos (by omega) (by omega)
    have hg2 : g ≤ 1000 * 13 := by rw [hg]; exact Nat.mul_le_mul (by omega) (by omega)
    rw [show ((num : Int) * ((V : Int) + 1)) = (g : Int) by rw [hg]; rfl]
    refine w_i2l h (pc := 69) dX1_blend_69 (by omega) ?_
    refine w_ladd h (pc := 70) dX1_blend_70 ?_
    refine w_ldiv h (pc := 71) dX1_blend_71 (by omega) (by omega) ?_
    have hres : bl 1000000 0 num (V + 1) c S K p = (c * 1000 + num) * 1000000 / (S * 1000 + g) := by unfold bl; rw [if_pos rfl, hg]
    exact w_lret h (pc := 72) rfl dX1_blend_72 (Nat.le_of_ble_eq_true rfl) (Nat.le_of_ble_eq_true rfl) ⟨by rw [hres]; rfl, rfl⟩
  · subst hw
    refine w_tabIn h (pc := 4) (tgt := 73) (off := 69) dX1_blend_4 (by omega) (by decide) (by decide) rfl (by decide) ?_
    refine w_aload_n h (pc := 73) dX1_blend_73 rfl ?_
    refine g2_number h (pc := 74) en wm_59 dX1_blend_74 ?_
    refine w_i2l h (pc := 77) dX1_blend_77 (by omega) ?_
    refine w_lload_n h (pc := 78) dX1_blend_78 rfl ?_
    refine w_ldc2 h (pc := 79) (z := 1000000) dX1_blend_79 wm_321 (by decide) ?_
    refine w_lmul h (pc := 82) dX1_blend_82 ?_
    refine w_aload_n h (pc := 83) dX1_blend_83 rfl ?_
    refine g2_sum h (pc := 84) eS wm_62 dX1_blend_84 ?_
    refine w_ldiv h (pc := 87) dX1_blend_87 (by omega) (by omega) ?_
    refine w_lmul h (pc := 88) dX1_blend_88 ?_
    refine w_sipush h (pc := 89) dX1_blend_89 (by decide) ?_
    refine w_aload_n h (pc := 92) dX1_blend_92 rfl ?_
    refine g2_number h (pc := 93) en wm_59 dX1_blend_93 ?_
    refine w_isub h (pc := 96) dX1_blend_96 ?_
    rw [show ((1000 : Int) - (num : Int)) = ((1000 - num : Nat) : Int) by omega]
    refine w_i2l h (pc := 97) dX1_blend_97 (by omega) ?_
    refine w_lload_n h (pc := 98) dX1_blend_98 rfl ?_
    refine w_lmul h (pc := 99) dX1_blend_99 ?_
    refine w_ladd h (pc := 100) dX1_blend_100 ?_
    obtain ⟨e1, he1⟩ : ∃ e1 : Nat, e1 = c * 1000000 / S := ⟨_, rfl⟩
    have hle1 : e1 ≤ 1000000 := by rw [he1]; exact Nat.div_le_of_le_mul (by rw [Nat.mul_comm c]; exact Nat.mul_comm 1000000 S ▸ Nat.mul_le_mul_left 1000000 hcS)
    obtain ⟨g1, hg1⟩ : ∃ g1 : Nat, g1 = num * e1 := ⟨_, rfl⟩
    obtain ⟨g2, hg2⟩ : ∃ g2 : Nat, g2 = (1000 - num) * p := ⟨_, rfl⟩
    have hb1 : g1 ≤ 1000 * 1000000 := by rw [hg1]; exact Nat.mul_le_mul (by omega) (by omega)
    have hb2 : g2 ≤ 1000 * 1000000 := by rw [hg2]; exact Nat.mul_le_mul (by omega) (by omega)
    rw [show ((num : Int) * ((c : Int) * 1000000 / (S : Int)) + ((1000 - num : Nat) : Int) * (p : Int)) = ((g1 + g2 : Nat) : Int) by rw [hg1, hg2, he1]; rfl]
    refine w_ldc2 h (pc := 101) (z := 1000) dX1_blend_101 wm_320 (by decide) ?_
    refine w_ldiv h (pc := 104) dX1_blend_104 (by omega) (by omega) ?_
    have hres : bl 1000000 1 num (V + 1) c S K p = (g1 + g2) / 1000 := by unfold bl; rw [if_neg (by decide), if_pos rfl, hg1, hg2, he1]
    exact w_lret h (pc := 105) rfl dX1_blend_105 (Nat.le_of_ble_eq_true rfl) (Nat.le_of_ble_eq_true rfl) ⟨by rw [hres]; rfl, rfl⟩
  · subst hw
    refine w_tabIn h (pc := 4) (tgt := 106) (off := 102) dX1_blend_4 (by omega) (by decide) (by decide) rfl (by decide) ?_
    refine w_lload_n h (pc := 106) dX1_blend_106 rfl ?_
    refine w_ldc2 h (pc := 107) (z := 1000000) dX1_blend_107 wm_321 (by decide) ?_
    refine w_lmul h (pc := 110) dX1_blend_110 ?_
    refine w_aload_n h (pc := 111) dX1_blend_111 rfl ?_
    refine g2_kinds h (pc := 112) eK wm_63 dX1_blend_112 ?_
    refine w_i2l h (pc := 115) dX1_blend_115 (by omega) ?_
    refine w_lload_n h (pc := 116) dX1_blend_116 rfl ?_
    refine w_lmul h (pc := 117) dX1_blend_117 ?_
    refine w_ladd h (pc := 118) dX1_blend_118 ?_
    obtain ⟨g, hg⟩ : ∃ g : Nat, g = K * p := ⟨_, rfl⟩
    have hg2 : g ≤ 13 * 1000000 := by rw [hg]; exact Nat.mul_le_mul (by omega) (by omega)
    rw [show ((K : Int) * (p : Int)) = (g : Int) by rw [hg]; rfl]
    refine w_aload_n h (pc := 119) dX1_blend_119 rfl ?_
    refine g2_sum h (pc := 120) eS wm_62 dX1_blend_120 ?_
    refine w_aload_n h (pc := 123) dX1_blend_123 rfl ?_
    refine g2_kinds h (pc := 124) eK wm_63 dX1_blend_124 ?_
    refine w_i2l h (pc := 127) dX1_blend_127 (by omega) ?_
    refine w_ladd h (pc := 128) dX1_blend_128 ?_
    refine w_ldiv h (pc := 129) dX1_blend_129 (by omega) (by omega) ?_
    have hres : bl 1000000 2 num (V + 1) c S K p = (c * 1000000 + g) / (S + K) := by unfold bl; rw [if_neg (by decide), if_neg (by decide), if_pos rfl, hg]
    exact w_lret h (pc := 130) rfl dX1_blend_130 (Nat.le_of_ble_eq_true rfl) (Nat.le_of_ble_eq_true rfl) ⟨by rw [hres]; rfl, rfl⟩
  · skip
    refine w_tabOut h (pc := 4) (tgt := 131) dX1_blend_4 (by omega) (by omega) (by decide) ?_
    refine w_lconst h (pc := 131) (z := 0) dX1_blend_131 (by decide) ?_
    refine w_lload_n h (pc := 132) dX1_blend_132 rfl ?_
    refine w_ldc2 h (pc := 133) (z := 1000) dX1_blend_133 wm_320 (by decide) ?_
    refine w_lmul h (pc := 136) dX1_blend_136 ?_
    refine w_aload_n h (pc := 137) dX1_blend_137 rfl ?_
    refine g2_number h (pc := 138) en wm_59 dX1_blend_138 ?_
    refine w_i2l h (pc := 141) dX1_blend_141 (by omega) ?_
    refine w_lsub h (pc := 142) dX1_blend_142 ?_
    refine w_lmax h (pc := 143) wm_322 wm_323 wm_125 wm_324 (Nat.le_of_ble_eq_true rfl) (Nat.le_of_ble_eq_true rfl) (Nat.le_of_ble_eq_true rfl) (Nat.le_of_ble_eq_true rfl) (by omega) (by omega) (z := ((c * 1000 - num : Nat) : Int)) (by split <;> omega) dX1_blend_143 ?_
    refine w_lstore h (pc := 146) dX1_blend_146 (by decide) ?_
    refine w_lload h (pc := 148) dX1_blend_148 rfl ?_
    refine w_ldc2 h (pc := 150) (z := 1000000) dX1_blend_150 wm_321 (by decide) ?_
    refine w_lmul h (pc := 153) dX1_blend_153 ?_
    refine w_aload_n h (pc := 154) dX1_blend_154 rfl ?_
    refine g2_number h (pc := 155) en wm_59 dX1_blend_155 ?_
    refine w_aload_n h (pc := 158) dX1_blend_158 rfl ?_
    refine g2_kinds h (pc := 159) eK wm_63 dX1_blend_159 ?_
    refine w_imul h (pc := 162) dX1_blend_162 ?_
    obtain ⟨g, hg⟩ : ∃ g : Nat, g = num * K := ⟨_, rfl⟩
    have hg2 : g ≤ 1000 * 13 := by rw [hg]; exact Nat.mul_le_mul (by omega) (by omega)
    rw [show ((num : Int) * (K : Int)) = (g : Int) by rw [hg]; rfl]
    refine w_i2l h (pc := 163) dX1_blend_163 (by omega) ?_
    refine w_lload_n h (pc := 164) dX1_blend_164 rfl ?_
    refine w_lmul h (pc := 165) dX1_blend_165 ?_
    obtain ⟨f, hf⟩ : ∃ f : Nat, f = g * p := ⟨_, rfl⟩
    have hf2 : f ≤ (1000 * 13) * 1000000 := by rw [hf]; exact Nat.mul_le_mul hg2 (by omega)
    rw [show ((g : Int) * (p : Int)) = (f : Int) by rw [hf]; rfl]
    refine w_ladd h (pc := 166) dX1_blend_166 ?_
    refine w_aload_n h (pc := 167) dX1_blend_167 rfl ?_
    refine g2_sum h (pc := 168) eS wm_62 dX1_blend_168 ?_
    refine w_ldc2 h (pc := 171) (z := 1000) dX1_blend_171 wm_320 (by decide) ?_
    refine w_lmul h (pc := 174) dX1_blend_174 ?_
    refine w_ldiv h (pc := 175) dX1_blend_175 (by omega) (by omega) ?_
    have hres : bl 1000000 way num (V + 1) c S K p = ((c * 1000 - num) * 1000000 + f) / (S * 1000) := by unfold bl; rw [if_neg (by omega), if_neg (by omega), if_neg (by omega), hf, hg]
    exact w_lret h (pc := 176) rfl dX1_blend_176 (Nat.le_of_ble_eq_true rfl) (Nat.le_of_ble_eq_true rfl) ⟨by rw [hres]; rfl, rfl⟩

set_option maxHeartbeats 4000000 in
set_option maxRecDepth 100000 in
theorem mX1_refine (l : Launch) (D : va_G) (κ a : Nat → Nat) (ε : Nat) (V m N way num : Nat) (u : US) (T : Nat → List (Nat × Nat)) (hV : V ≤ 12) (hm : m ≤ 800) (hN : 1 ≤ N ∧ N ≤ 4) (hway : way ≤ 4) (hnum : 1 ≤ num ∧ num ≤ 1000) (hT : TA V m u T) (eV : u.1 4 = (V : Int)) (eN : u.1 5 = (N : Int)) (ew : u.1 6 = (way : Int)) (en : u.1 7 = (num : Int)) (n : Nat) (hn : 1 ≤ n ∧ n ≤ N) (c : Nat) (hc : c < 2744) (p : Nat → Nat) (hp : ∀ w, w ≤ V → u.2 9 w = (p w : Int) ∧ p w ≤ 1000000) : Ct (W0 κ a) l D κ ε yX1_refine cX1_refine 5 none 2 49 0 0 u [.ref (a 2), .int (iI (n : Int)), .int (iI (c : Int))] (fun v u' => v = none ∧ Fr [8, 9] [9, 10] u u' ∧ ∀ w, w ≤ V → u'.2 9 w = (rf way num V (tl way N (fun n => T (n - 1)) (fun n => T (n + 3)) n) c p w : Int)) := by
  refine Ct.of (own := RX1) rfl (by decide +kernel) (Nat.le_of_ble_eq_true rfl) rfl (fun Γ h => ?_)
  refine w_aload_n h (pc := 0) dX1_refine_0 rfl ?_
  refine g2_way h (pc := 1) ew wm_58 dX1_refine_1 ?_
  refine w_iconst h (pc := 4) dX1_refine_4 ?_
  refine w_icmp_ne h (pc := 5) (tgt := 23) dX1_refine_5 (by decide) (by omega) (by omega) (fun c5 => ?_) (fun c5 => ?_)
  · refine w_iconst h (pc := 23) dX1_refine_23 ?_
    refine w_istore_n h (pc := 24) dX1_refine_24 (by decide) ?_
    refine w_aload_n h (pc := 25) dX1_refine_25 rfl ?_
    refine w_iload_n h (pc := 26) dX1_refine_26 rfl ?_
    refine w_if_eq h (pc := 27) (tgt := 41) dX1_refine_27 (by decide) (by omega) (fun c27 => ?_) (fun c27 => by exfalso; omega)
    refine w_aload_n h (pc := 41) dX1_refine_41 rfl ?_
    refine g2_ledger h (pc := 42) wm_64 dX1_refine_42 ?_
    refine w_iload_n h (pc := 45) dX1_refine_45 rfl ?_
    refine w_callV1 h (pc := 46) (mX0_countsOf l D κ a ε u n (by omega)) 1 rfl rfl (gdV wm_314 wm_120 wm_121 wm_15 wm_122) (by decide +kernel) ⟨(Nat.le_of_ble_eq_true rfl), (Nat.le_of_ble_eq_true rfl)⟩ ⟨(Nat.le_of_ble_eq_true rfl), (Nat.le_of_ble_eq_true rfl)⟩ (fun _ _ _ => ⟨rfl, rfl⟩) (Nat.le_of_ble_eq_true rfl) dX1_refine_46 (fun v1 u1 hp1 => ?_)
    obtain ⟨rfl, e1⟩ := hp1
    obtain rfl := e1.symm
    simp only [Option.toList_some, List.cons_append, List.nil_append]
    first
    | (obtain ⟨i, hi, hTi, hix⟩ : ∃ i, i < 8 ∧ T i = (tl way N (fun n => T (n - 1)) (fun n => T (n + 3)) n) ∧ n - 1 = i := ⟨n - 1, by omega, by unfold tl; rw [if_neg (by omega)], rfl⟩
       rw [hix])
    | skip
    refine w_iload_n h (pc := 49) dX1_refine_49 rfl ?_
    refine w_callV2 h (pc := 50) (mX1_gather l D κ a ε V m u hV hm _ hi (T i) (hT i hi).1 (hT i hi).2 c hc) 2 rfl rfl (gdV wm_315 wm_282 wm_283 wm_19 wm_284) (by decide +kernel) ⟨(Nat.le_of_ble_eq_true rfl), (Nat.le_of_ble_eq_true rfl)⟩ ⟨(Nat.le_of_ble_eq_true rfl), (Nat.le_of_ble_eq_true rfl)⟩ (fun _ _ _ => ⟨rfl, rfl⟩) (Nat.le_of_ble_eq_true rfl) dX1_refine_50 (fun v2 u2 hp2 => ?_)
    obtain ⟨rfl, hF, hown, hS, hK⟩ := hp2
    rw [hTi] at hown hS hK
    have eV2 : u2.1 4 = (V : Int) := (hF.1 4 (by simp)).trans eV
    have ew2 : u2.1 6 = (way : Int) := (hF.1 6 (by simp)).trans ew
    have en2 : u2.1 7 = (num : Int) := (hF.1 7 (by simp)).trans en
    have hSb : rfS (tl way N (fun n => T (n - 1)) (fun n => T (n + 3)) n) c V ≤ 13 * (4 * m) := by rw [← hTi]; exact rfS_le (hT i hi).2 hV
    have hKb := kd_n (c := fun w => gt (tl way N (fun n => T (n - 1)) (fun n => T (n + 3)) n) (c * 14 + w + 1)) (V + 1)
    have hp2 : ∀ w, w ≤ V → u2.2 9 w = (p w : Int) := fun w hw => by rw [hF.2 9 (by simp)]; exact (hp w hw).1
    simp only [Option.toList_none, List.nil_append]
    refine w_aload_n h (pc := 53) dX1_refine_53 rfl ?_
    refine g2_way h (pc := 54) ew2 wm_58 dX1_refine_54 ?_
    refine w_if_eq h (pc := 57) (tgt := 70) dX1_refine_57 (by decide) (by omega) (fun c57 => ?_) (fun c57 => ?_)
    · have hnz : ¬ (way ≠ 0 ∧ rfS (tl way N (fun n => T (n - 1)) (fun n => T (n + 3)) n) c V = 0) := by omega
      have hS0 : way = 0 ∨ 0 < rfS (tl way N (fun n => T (n - 1)) (fun n => T (n + 3)) n) c V := by omega
      refine w_iconst h (pc := 70) dX1_refine_70 ?_
      refine w_istore h (pc := 71) dX1_refine_71 (by decide) ?_
      have lp73 : ∀ (n9 j : Nat) (w : US), V + 1 < j + n9 → j ≤ V + 1 → Fr [8, 9] [9, 10] u w → (∀ x, x ≤ V → w.2 10 x = (gt (tl way N (fun n => T (n - 1)) (fun n => T (n + 3)) n) (c * 14 + x + 1) : Int)) → w.1 8 = (rfS (tl way N (fun n => T (n - 1)) (fun n => T (n + 3)) n) c V : Int) → w.1 9 = (kd (fun w => gt (tl way N (fun n => T (n - 1)) (fun n => T (n + 3)) n) (c * 14 + w + 1)) (V + 1) : Int) → (∀ x, x ≤ V → w.2 9 x = if x < j then (rf way num V (tl way N (fun n => T (n - 1)) (fun n => T (n + 3)) n) c p x : Int) else (p x : Int)) → WW Γ 5 w 73 [(0, .ref (a 2)), (4, .int (iI (j : Int)))] [] := by
        intro n9
        induction n9 with
        | zero => intro j w hn9 hj hFw hownw hS3 hK3 hch; exfalso; omega
        | succ n9 ih =>
          intro j w hn9 hj hFw hownw hS3 hK3 hch
          have eV3 : w.1 4 = (V : Int) := (hFw.1 4 (by simp)).trans eV
          have ew3 : w.1 6 = (way : Int) := (hFw.1 6 (by simp)).trans ew
          have en3 : w.1 7 = (num : Int) := (hFw.1 7 (by simp)).trans en
          refine w_iload h (pc := 73) dX1_refine_73 rfl ?_
          refine w_aload_n h (pc := 75) dX1_refine_75 rfl ?_
          refine g2_ledger h (pc := 76) wm_64 dX1_refine_76 ?_
          refine g1_words h (pc := 79) eV3 wm_307 dX1_refine_79 ?_
          refine w_icmp_gt h (pc := 82) (tgt := 119) dX1_refine_82 (by decide) (by omega) (by omega) (fun c82 => ?_) (fun c82 => ?_)
          · exact w_vret h (pc := 119) rfl dX1_refine_119 (Nat.le_of_ble_eq_true rfl) (Nat.le_of_ble_eq_true rfl) ⟨rfl, hFw, fun w9 hw9 => (hch w9 hw9).trans (if_pos (by omega))⟩
          · have hgr := gt_rfS (t := (tl way N (fun n => T (n - 1)) (fun n => T (n + 3)) n)) (c := c) (w := j) (V := V) (by omega)
            have hpj := (hp j (by omega)).2
            refine w_aload_n h (pc := 85) dX1_refine_85 rfl ?_
            refine g2_chances h (pc := 86) wm_60 dX1_refine_86 ?_
            refine w_iload h (pc := 89) dX1_refine_89 rfl ?_
            refine w_aload_n h (pc := 91) dX1_refine_91 rfl ?_
            refine w_aload_n h (pc := 92) dX1_refine_92 rfl ?_
            refine g2_own h (pc := 93) wm_61 dX1_refine_93 ?_
            refine w_iload h (pc := 96) dX1_refine_96 rfl ?_
            refine ld_own h (pc := 98) (by omega) (hownw j (by omega)) dX1_refine_98 ?_
            refine w_i2l h (pc := 99) dX1_refine_99 (by omega) ?_
            refine w_aload_n h (pc := 100) dX1_refine_100 rfl ?_
            refine g2_chances h (pc := 101) wm_60 dX1_refine_101 ?_
            refine w_iload h (pc := 104) dX1_refine_104 rfl ?_
            refine ld_chances h (pc := 106) (by omega) ((hch j (by omega)).trans (if_neg (by omega))) dX1_refine_106 ?_
            refine w_i2l h (pc := 107) dX1_refine_107 (by omega) ?_
            refine w_callV2 h (pc := 108) (mX1_blend l D κ a ε V way num (gt (tl way N (fun n => T (n - 1)) (fun n => T (n + 3)) n) (c * 14 + j + 1)) (rfS (tl way N (fun n => T (n - 1)) (fun n => T (n + 3)) n) c V) (kd (fun w => gt (tl way N (fun n => T (n - 1)) (fun n => T (n + 3)) n) (c * 14 + w + 1)) (V + 1)) (p j) w hV hway hnum (gt_rfS (by omega)) (by omega) (by omega) (hp j (by omega)).2 hS0 eV3 ew3 en3 hS3 hK3) 2 rfl rfl (gdV wm_316 wm_317 wm_318 wm_19 wm_319) (by decide +kernel) ⟨(Nat.le_of_ble_eq_true rfl), (Nat.le_of_ble_eq_true rfl)⟩ ⟨(Nat.le_of_ble_eq_true rfl), (Nat.le_of_ble_eq_true rfl)⟩ (fun _ _ _ => ⟨rfl, rfl⟩) (Nat.le_of_ble_eq_true rfl) dX1_refine_108 (fun v3 u3 hp3 => ?_)
            obtain ⟨rfl, e3⟩ := hp3
            obtain rfl := e3.symm
            simp only [Option.toList_some, List.cons_append, List.nil_append]
            refine w_l2i h (pc := 111) dX1_refine_111 ?_
            refine st_chances h (pc := 112) (by omega) dX1_refine_112 ?_
            refine w_iinc h (pc := 113) dX1_refine_113 rfl (by decide) ?_
            refine w_goto h (pc := 116) (tgt := 73) dX1_refine_116 (by decide) ?_
            refine WW.sub (by rfl) (ih (j + 1) _ (by omega) (by omega) (hFw.tr (Fr.A (by simp))) (fun x hx => ?_) hS3 hK3 (fun x hx => ?_))
            · rw [uA_ne _ _ (by decide)]; exact hownw x hx
            · rw [uA_at]
              unfold upI
              by_cases e : x = j
              · subst e
                rw [if_pos (by omega), if_pos (by omega)]
                unfold rf
                rw [if_neg hnz, if_pos hx]
              · rw [if_neg (by omega), hch x hx]
                by_cases e2 : x < j
                · rw [if_pos e2, if_pos (by omega)]
                · rw [if_neg e2, if_neg (by omega)]
      exact WW.sub (by rfl) (lp73 (V + 2) 0 _ (by omega) (by omega) (hF.mono (by simp) (by simp)) hown hS hK (fun x hx => by rw [if_neg (by omega)]; exact hp2 x hx))
    · refine w_aload_n h (pc := 60) dX1_refine_60 rfl ?_
      refine g2_sum h (pc := 61) hS wm_62 dX1_refine_61 ?_
      refine w_lconst h (pc := 64) (z := 0) dX1_refine_64 (by decide) ?_
      refine w_lcmp h (pc := 65) dX1_refine_65 ?_
      refine w_lif_gt h (pc := 66) (tgt := 70) dX1_refine_66 (by decide) (by omega) (by omega) (fun c66 => ?_) (fun c66 => ?_)
      · have hnz : ¬ (way ≠ 0 ∧ rfS (tl way N (fun n => T (n - 1)) (fun n => T (n + 3)) n) c V = 0) := by omega
        have hS0 : way = 0 ∨ 0 < rfS (tl way N (fun n => T (n - 1)) (fun n => T (n + 3)) n) c V := by omega
        refine w_iconst h (pc := 70) dX1_refine_70 ?_
        refine w_istore h (pc := 71) dX1_refine_71 (by decide) ?_
        have lp73 : ∀ (n9 j : Nat) (w : US), V + 1 < j + n9 → j ≤ V + 1 → Fr [8, 9] [9, 10] u w → (∀ x, x ≤ V → w.2 10 x = (gt (tl way N (fun n => T (n - 1)) (fun n => T (n + 3)) n) (c * 14 + x + 1) : Int)) → w.1 8 = (rfS (tl way N (fun n => T (n - 1)) (fun n => T (n + 3)) n) c V : Int) → w.1 9 = (kd (fun w => gt (tl way N (fun n => T (n - 1)) (fun n => T (n + 3)) n) (c * 14 + w + 1)) (V + 1) : Int) → (∀ x, x ≤ V → w.2 9 x = if x < j then (rf way num V (tl way N (fun n => T (n - 1)) (fun n => T (n + 3)) n) c p x : Int) else (p x : Int)) → WW Γ 5 w 73 [(0, .ref (a 2)), (4, .int (iI (j : Int)))] [] := by
          intro n9
          induction n9 with
          | zero => intro j w hn9 hj hFw hownw hS3 hK3 hch; exfalso; omega
          | succ n9 ih =>
            intro j w hn9 hj hFw hownw hS3 hK3 hch
            have eV3 : w.1 4 = (V : Int) := (hFw.1 4 (by simp)).trans eV
            have ew3 : w.1 6 = (way : Int) := (hFw.1 6 (by simp)).trans ew
            have en3 : w.1 7 = (num : Int) := (hFw.1 7 (by simp)).trans en
            refine w_iload h (pc := 73) dX1_refine_73 rfl ?_
            refine w_aload_n h (pc := 75) dX1_refine_75 rfl ?_
            refine g2_ledger h (pc := 76) wm_64 dX1_refine_76 ?_
            refine g1_words h (pc := 79) eV3 wm_307 dX1_refine_79 ?_
            refine w_icmp_gt h (pc := 82) (tgt := 119) dX1_refine_82 (by decide) (by omega) (by omega) (fun c82 => ?_) (fun c82 => ?_)
            · exact w_vret h (pc := 119) rfl dX1_refine_119 (Nat.le_of_ble_eq_true rfl) (Nat.le_of_ble_eq_true rfl) ⟨rfl, hFw, fun w9 hw9 => (hch w9 hw9).trans (if_pos (by omega))⟩
            · have hgr := gt_rfS (t := (tl way N (fun n => T (n - 1)) (fun n => T (n + 3)) n)) (c := c) (w := j) (V := V) (by omega)
              have hpj := (hp j (by omega)).2
              refine w_aload_n h (pc := 85) dX1_refine_85 rfl ?_
              refine g2_chances h (pc := 86) wm_60 dX1_refine_86 ?_
              refine w_iload h (pc := 89) dX1_refine_89 rfl ?_
              refine w_aload_n h (pc := 91) dX1_refine_91 rfl ?_
              refine w_aload_n h (pc := 92) dX1_refine_92 rfl ?_
              refine g2_own h (pc := 93) wm_61 dX1_refine_93 ?_
              refine w_iload h (pc := 96) dX1_refine_96 rfl ?_
              refine ld_own h (pc := 98) (by omega) (hownw j (by omega)) dX1_refine_98 ?_
              refine w_i2l h (pc := 99) dX1_refine_99 (by omega) ?_
              refine w_aload_n h (pc := 100) dX1_refine_100 rfl ?_
              refine g2_chances h (pc := 101) wm_60 dX1_refine_101 ?_
              refine w_iload h (pc := 104) dX1_refine_104 rfl ?_
              refine ld_chances h (pc := 106) (by omega) ((hch j (by omega)).trans (if_neg (by omega))) dX1_refine_106 ?_
              refine w_i2l h (pc := 107) dX1_refine_107 (by omega) ?_
              refine w_callV2 h (pc := 108) (mX1_blend l D κ a ε V way num (gt (tl way N (fun n => T (n - 1)) (fun n => T (n + 3)) n) (c * 14 + j + 1)) (rfS (tl way N (fun n => T (n - 1)) (fun n => T (n + 3)) n) c V) (kd (fun w => gt (tl way N (fun n => T (n - 1)) (fun n => T (n + 3)) n) (c * 14 + w + 1)) (V + 1)) (p j) w hV hway hnum (gt_rfS (by omega)) (by omega) (by omega) (hp j (by omega)).2 hS0 eV3 ew3 en3 hS3 hK3) 2 rfl rfl (gdV wm_316 wm_317 wm_318 wm_19 wm_319) (by decide +kernel) ⟨(Nat.le_of_ble_eq_true rfl), (Nat.le_of_ble_eq_true rfl)⟩ ⟨(Nat.le_of_ble_eq_true rfl), (Nat.le_of_ble_eq_true rfl)⟩ (fun _ _ _ => ⟨rfl, rfl⟩) (Nat.le_of_ble_eq_true rfl) dX1_refine_108 (fun v3 u3 hp3 => ?_)
              obtain ⟨rfl, e3⟩ := hp3
              obtain rfl := e3.symm
              simp only [Option.toList_some, List.cons_append, List.nil_append]
              refine w_l2i h (pc := 111) dX1_refine_111 ?_
              refine st_chances h (pc := 112) (by omega) dX1_refine_112 ?_
              refine w_iinc h (pc := 113) dX1_refine_113 rfl (by decide) ?_
              refine w_goto h (pc := 116) (tgt := 73) dX1_refine_116 (by decide) ?_
              refine WW.sub (by rfl) (ih (j + 1) _ (by omega) (by omega) (hFw.tr (Fr.A (by simp))) (fun x hx => ?_) hS3 hK3 (fun x hx => ?_))
              · rw [uA_ne _ _ (by decide)]; exact hownw x hx
              · rw [uA_at]
                unfold upI
                by_cases e : x = j
                · subst e
                  rw [if_pos (by omega), if_pos (by omega)]
                  unfold rf
                  rw [if_neg hnz, if_pos hx]
                · rw [if_neg (by omega), hch x hx]
                  by_cases e2 : x < j
                  · rw [if_pos e2, if_pos (by omega)]
                  · rw [if_neg e2, if_neg (by omega)]
        exact WW.sub (by rfl) (lp73 (V + 2) 0 _ (by omega) (by omega) (hF.mono (by simp) (by simp)) hown hS hK (fun x hx => by rw [if_neg (by omega)]; exact hp2 x hx))
      · exact w_vret h (pc := 69) rfl dX1_refine_69 (Nat.le_of_ble_eq_true rfl) (Nat.le_of_ble_eq_true rfl) ⟨rfl, hF.mono (by simp) (by simp), fun w hw => by rw [hp2 w hw]; unfold rf; rw [if_pos ⟨by omega, by omega⟩]⟩
  · refine w_iload_n h (pc := 8) dX1_refine_8 rfl ?_
    refine w_aload_n h (pc := 9) dX1_refine_9 rfl ?_
    refine g2_ledger h (pc := 10) wm_64 dX1_refine_10 ?_
    refine g1_order h (pc := 13) eN wm_312 dX1_refine_13 ?_
    refine w_icmp_ge h (pc := 16) (tgt := 23) dX1_refine_16 (by decide) (by omega) (by omega) (fun c16 => ?_) (fun c16 => ?_)
    · refine w_iconst h (pc := 23) dX1_refine_23 ?_
      refine w_istore_n h (pc := 24) dX1_refine_24 (by decide) ?_
      refine w_aload_n h (pc := 25) dX1_refine_25 rfl ?_
      refine w_iload_n h (pc := 26) dX1_refine_26 rfl ?_
      refine w_if_eq h (pc := 27) (tgt := 41) dX1_refine_27 (by decide) (by omega) (fun c27 => ?_) (fun c27 => by exfalso; omega)
      refine w_aload_n h (pc := 41) dX1_refine_41 rfl ?_
      refine g2_ledger h (pc := 42) wm_64 dX1_refine_42 ?_
      refine w_iload_n h (pc := 45) dX1_refine_45 rfl ?_
      refine w_callV1 h (pc := 46) (mX0_countsOf l D κ a ε u n (by omega)) 1 rfl rfl (gdV wm_314 wm_120 wm_121 wm_15 wm_122) (by decide +kernel) ⟨(Nat.le_of_ble_eq_true rfl), (Nat.le_of_ble_eq_true rfl)⟩ ⟨(Nat.le_of_ble_eq_true rfl), (Nat.le_of_ble_eq_true rfl)⟩ (fun _ _ _ => ⟨rfl, rfl⟩) (Nat.le_of_ble_eq_true rfl) dX1_refine_46 (fun v1 u1 hp1 => ?_)
      obtain ⟨rfl, e1⟩ := hp1
      obtain rfl := e1.symm
      simp only [Option.toList_some, List.cons_append, List.nil_append]
      first
      | (obtain ⟨i, hi, hTi, hix⟩ : ∃ i, i < 8 ∧ T i = (tl way N (fun n => T (n - 1)) (fun n => T (n + 3)) n) ∧ n - 1 = i := ⟨n - 1, by omega, by unfold tl; rw [if_neg (by omega)], rfl⟩
         rw [hix])
      | skip
      refine w_iload_n h (pc := 49) dX1_refine_49 rfl ?_
      refine w_callV2 h (pc := 50) (mX1_gather l D κ a ε V m u hV hm _ hi (T i) (hT i hi).1 (hT i hi).2 c hc) 2 rfl rfl (gdV wm_315 wm_282 wm_283 wm_19 wm_284) (by decide +kernel) ⟨(Nat.le_of_ble_eq_true rfl), (Nat.le_of_ble_eq_true rfl)⟩ ⟨(Nat.le_of_ble_eq_true rfl), (Nat.le_of_ble_eq_true rfl)⟩ (fun _ _ _ => ⟨rfl, rfl⟩) (Nat.le_of_ble_eq_true rfl) dX1_refine_50 (fun v2 u2 hp2 => ?_)
      obtain ⟨rfl, hF, hown, hS, hK⟩ := hp2
      rw [hTi] at hown hS hK
      have eV2 : u2.1 4 = (V : Int) := (hF.1 4 (by simp)).trans eV
      have ew2 : u2.1 6 = (way : Int) := (hF.1 6 (by simp)).trans ew
      have en2 : u2.1 7 = (num : Int) := (hF.1 7 (by simp)).trans en
      have hSb : rfS (tl way N (fun n => T (n - 1)) (fun n => T (n + 3)) n) c V ≤ 13 * (4 * m) := by rw [← hTi]; exact rfS_le (hT i hi).2 hV
      have hKb := kd_n (c := fun w => gt (tl way N (fun n => T (n - 1)) (fun n => T (n + 3)) n) (c * 14 + w + 1)) (V + 1)
      have hp2 : ∀ w, w ≤ V → u2.2 9 w = (p w : Int) := fun w hw => by rw [hF.2 9 (by simp)]; exact (hp w hw).1
      simp only [Option.toList_none, List.nil_append]
      refine w_aload_n h (pc := 53) dX1_refine_53 rfl ?_
      refine g2_way h (pc := 54) ew2 wm_58 dX1_refine_54 ?_
      refine w_if_eq h (pc := 57) (tgt := 70) dX1_refine_57 (by decide) (by omega) (fun c57 => ?_) (fun c57 => ?_)
      · have hnz : ¬ (way ≠ 0 ∧ rfS (tl way N (fun n => T (n - 1)) (fun n => T (n + 3)) n) c V = 0) := by omega
        have hS0 : way = 0 ∨ 0 < rfS (tl way N (fun n => T (n - 1)) (fun n => T (n + 3)) n) c V := by omega
        refine w_iconst h (pc := 70) dX1_refine_70 ?_
        refine w_istore h (pc := 71) dX1_refine_71 (by decide) ?_
        have lp73 : ∀ (n9 j : Nat) (w : US), V + 1 < j + n9 → j ≤ V + 1 → Fr [8, 9] [9, 10] u w → (∀ x, x ≤ V → w.2 10 x = (gt (tl way N (fun n => T (n - 1)) (fun n => T (n + 3)) n) (c * 14 + x + 1) : Int)) → w.1 8 = (rfS (tl way N (fun n => T (n - 1)) (fun n => T (n + 3)) n) c V : Int) → w.1 9 = (kd (fun w => gt (tl way N (fun n => T (n - 1)) (fun n => T (n + 3)) n) (c * 14 + w + 1)) (V + 1) : Int) → (∀ x, x ≤ V → w.2 9 x = if x < j then (rf way num V (tl way N (fun n => T (n - 1)) (fun n => T (n + 3)) n) c p x : Int) else (p x : Int)) → WW Γ 5 w 73 [(0, .ref (a 2)), (4, .int (iI (j : Int)))] [] := by
          intro n9
          induction n9 with
          | zero => intro j w hn9 hj hFw hownw hS3 hK3 hch; exfalso; omega
          | succ n9 ih =>
            intro j w hn9 hj hFw hownw hS3 hK3 hch
            have eV3 : w.1 4 = (V : Int) := (hFw.1 4 (by simp)).trans eV
            have ew3 : w.1 6 = (way : Int) := (hFw.1 6 (by simp)).trans ew
            have en3 : w.1 7 = (num : Int) := (hFw.1 7 (by simp)).trans en
            refine w_iload h (pc := 73) dX1_refine_73 rfl ?_
            refine w_aload_n h (pc := 75) dX1_refine_75 rfl ?_
            refine g2_ledger h (pc := 76) wm_64 dX1_refine_76 ?_
            refine g1_words h (pc := 79) eV3 wm_307 dX1_refine_79 ?_
            refine w_icmp_gt h (pc := 82) (tgt := 119) dX1_refine_82 (by decide) (by omega) (by omega) (fun c82 => ?_) (fun c82 => ?_)
            · exact w_vret h (pc := 119) rfl dX1_refine_119 (Nat.le_of_ble_eq_true rfl) (Nat.le_of_ble_eq_true rfl) ⟨rfl, hFw, fun w9 hw9 => (hch w9 hw9).trans (if_pos (by omega))⟩
            · have hgr := gt_rfS (t := (tl way N (fun n => T (n - 1)) (fun n => T (n + 3)) n)) (c := c) (w := j) (V := V) (by omega)
              have hpj := (hp j (by omega)).2
              refine w_aload_n h (pc := 85) dX1_refine_85 rfl ?_
              refine g2_chances h (pc := 86) wm_60 dX1_refine_86 ?_
              refine w_iload h (pc := 89) dX1_refine_89 rfl ?_
              refine w_aload_n h (pc := 91) dX1_refine_91 rfl ?_
              refine w_aload_n h (pc := 92) dX1_refine_92 rfl ?_
              refine g2_own h (pc := 93) wm_61 dX1_refine_93 ?_
              refine w_iload h (pc := 96) dX1_refine_96 rfl ?_
              refine ld_own h (pc := 98) (by omega) (hownw j (by omega)) dX1_refine_98 ?_
              refine w_i2l h (pc := 99) dX1_refine_99 (by omega) ?_
              refine w_aload_n h (pc := 100) dX1_refine_100 rfl ?_
              refine g2_chances h (pc := 101) wm_60 dX1_refine_101 ?_
              refine w_iload h (pc := 104) dX1_refine_104 rfl ?_
              refine ld_chances h (pc := 106) (by omega) ((hch j (by omega)).trans (if_neg (by omega))) dX1_refine_106 ?_
              refine w_i2l h (pc := 107) dX1_refine_107 (by omega) ?_
              refine w_callV2 h (pc := 108) (mX1_blend l D κ a ε V way num (gt (tl way N (fun n => T (n - 1)) (fun n => T (n + 3)) n) (c * 14 + j + 1)) (rfS (tl way N (fun n => T (n - 1)) (fun n => T (n + 3)) n) c V) (kd (fun w => gt (tl way N (fun n => T (n - 1)) (fun n => T (n + 3)) n) (c * 14 + w + 1)) (V + 1)) (p j) w hV hway hnum (gt_rfS (by omega)) (by omega) (by omega) (hp j (by omega)).2 hS0 eV3 ew3 en3 hS3 hK3) 2 rfl rfl (gdV wm_316 wm_317 wm_318 wm_19 wm_319) (by decide +kernel) ⟨(Nat.le_of_ble_eq_true rfl), (Nat.le_of_ble_eq_true rfl)⟩ ⟨(Nat.le_of_ble_eq_true rfl), (Nat.le_of_ble_eq_true rfl)⟩ (fun _ _ _ => ⟨rfl, rfl⟩) (Nat.le_of_ble_eq_true rfl) dX1_refine_108 (fun v3 u3 hp3 => ?_)
              obtain ⟨rfl, e3⟩ := hp3
              obtain rfl := e3.symm
              simp only [Option.toList_some, List.cons_append, List.nil_append]
              refine w_l2i h (pc := 111) dX1_refine_111 ?_
              refine st_chances h (pc := 112) (by omega) dX1_refine_112 ?_
              refine w_iinc h (pc := 113) dX1_refine_113 rfl (by decide) ?_
              refine w_goto h (pc := 116) (tgt := 73) dX1_refine_116 (by decide) ?_
              refine WW.sub (by rfl) (ih (j + 1) _ (by omega) (by omega) (hFw.tr (Fr.A (by simp))) (fun x hx => ?_) hS3 hK3 (fun x hx => ?_))
              · rw [uA_ne _ _ (by decide)]; exact hownw x hx
              · rw [uA_at]
                unfold upI
                by_cases e : x = j
                · subst e
                  rw [if_pos (by omega), if_pos (by omega)]
                  unfold rf
                  rw [if_neg hnz, if_pos hx]
                · rw [if_neg (by omega), hch x hx]
                  by_cases e2 : x < j
                  · rw [if_pos e2, if_pos (by omega)]
                  · rw [if_neg e2, if_neg (by omega)]
        exact WW.sub (by rfl) (lp73 (V + 2) 0 _ (by omega) (by omega) (hF.mono (by simp) (by simp)) hown hS hK (fun x hx => by rw [if_neg (by omega)]; exact hp2 x hx))
      · refine w_aload_n h (pc := 60) dX1_refine_60 rfl ?_
        refine g2_sum h (pc := 61) hS wm_62 dX1_refine_61 ?_
        refine w_lconst h (pc := 64) (z := 0) dX1_refine_64 (by decide) ?_
        refine w_lcmp h (pc := 65) dX1_refine_65 ?_
        refine w_lif_gt h (pc := 66) (tgt := 70) dX1_refine_66 (by decide) (by omega) (by omega) (fun c66 => ?_) (fun c66 => ?_)
        · have hnz : ¬ (way ≠ 0 ∧ rfS (tl way N (fun n => T (n - 1)) (fun n => T (n + 3)) n) c V = 0) := by omega
          have hS0 : way = 0 ∨ 0 < rfS (tl way N (fun n => T (n - 1)) (fun n => T (n + 3)) n) c V := by omega
          refine w_iconst h (pc := 70) dX1_refine_70 ?_
          refine w_istore h (pc := 71) dX1_refine_71 (by decide) ?_
          have lp73 : ∀ (n9 j : Nat) (w : US), V + 1 < j + n9 → j ≤ V + 1 → Fr [8, 9] [9, 10] u w → (∀ x, x ≤ V → w.2 10 x = (gt (tl way N (fun n => T (n - 1)) (fun n => T (n + 3)) n) (c * 14 + x + 1) : Int)) → w.1 8 = (rfS (tl way N (fun n => T (n - 1)) (fun n => T (n + 3)) n) c V : Int) → w.1 9 = (kd (fun w => gt (tl way N (fun n => T (n - 1)) (fun n => T (n + 3)) n) (c * 14 + w + 1)) (V + 1) : Int) → (∀ x, x ≤ V → w.2 9 x = if x < j then (rf way num V (tl way N (fun n => T (n - 1)) (fun n => T (n + 3)) n) c p x : Int) else (p x : Int)) → WW Γ 5 w 73 [(0, .ref (a 2)), (4, .int (iI (j : Int)))] [] := by
            intro n9
            induction n9 with
            | zero => intro j w hn9 hj hFw hownw hS3 hK3 hch; exfalso; omega
            | succ n9 ih =>
              intro j w hn9 hj hFw hownw hS3 hK3 hch
              have eV3 : w.1 4 = (V : Int) := (hFw.1 4 (by simp)).trans eV
              have ew3 : w.1 6 = (way : Int) := (hFw.1 6 (by simp)).trans ew
              have en3 : w.1 7 = (num : Int) := (hFw.1 7 (by simp)).trans en
              refine w_iload h (pc := 73) dX1_refine_73 rfl ?_
              refine w_aload_n h (pc := 75) dX1_refine_75 rfl ?_
              refine g2_ledger h (pc := 76) wm_64 dX1_refine_76 ?_
              refine g1_words h (pc := 79) eV3 wm_307 dX1_refine_79 ?_
              refine w_icmp_gt h (pc := 82) (tgt := 119) dX1_refine_82 (by decide) (by omega) (by omega) (fun c82 => ?_) (fun c82 => ?_)
              · exact w_vret h (pc := 119) rfl dX1_refine_119 (Nat.le_of_ble_eq_true rfl) (Nat.le_of_ble_eq_true rfl) ⟨rfl, hFw, fun w9 hw9 => (hch w9 hw9).trans (if_pos (by omega))⟩
              · have hgr := gt_rfS (t := (tl way N (fun n => T (n - 1)) (fun n => T (n + 3)) n)) (c := c) (w := j) (V := V) (by omega)
                have hpj := (hp j (by omega)).2
                refine w_aload_n h (pc := 85) dX1_refine_85 rfl ?_
                refine g2_chances h (pc := 86) wm_60 dX1_refine_86 ?_
                refine w_iload h (pc := 89) dX1_refine_89 rfl ?_
                refine w_aload_n h (pc := 91) dX1_refine_91 rfl ?_
                refine w_aload_n h (pc := 92) dX1_refine_92 rfl ?_
                refine g2_own h (pc := 93) wm_61 dX1_refine_93 ?_
                refine w_iload h (pc := 96) dX1_refine_96 rfl ?_
                refine ld_own h (pc := 98) (by omega) (hownw j (by omega)) dX1_refine_98 ?_
                refine w_i2l h (pc := 99) dX1_refine_99 (by omega) ?_
                refine w_aload_n h (pc := 100) dX1_refine_100 rfl ?_
                refine g2_chances h (pc := 101) wm_60 dX1_refine_101 ?_
                refine w_iload h (pc := 104) dX1_refine_104 rfl ?_
                refine ld_chances h (pc := 106) (by omega) ((hch j (by omega)).trans (if_neg (by omega))) dX1_refine_106 ?_
                refine w_i2l h (pc := 107) dX1_refine_107 (by omega) ?_
                refine w_callV2 h (pc := 108) (mX1_blend l D κ a ε V way num (gt (tl way N (fun n => T (n - 1)) (fun n => T (n + 3)) n) (c * 14 + j + 1)) (rfS (tl way N (fun n => T (n - 1)) (fun n => T (n + 3)) n) c V) (kd (fun w => gt (tl way N (fun n => T (n - 1)) (fun n => T (n + 3)) n) (c * 14 + w + 1)) (V + 1)) (p j) w hV hway hnum (gt_rfS (by omega)) (by omega) (by omega) (hp j (by omega)).2 hS0 eV3 ew3 en3 hS3 hK3) 2 rfl rfl (gdV wm_316 wm_317 wm_318 wm_19 wm_319) (by decide +kernel) ⟨(Nat.le_of_ble_eq_true rfl), (Nat.le_of_ble_eq_true rfl)⟩ ⟨(Nat.le_of_ble_eq_true rfl), (Nat.le_of_ble_eq_true rfl)⟩ (fun _ _ _ => ⟨rfl, rfl⟩) (Nat.le_of_ble_eq_true rfl) dX1_refine_108 (fun v3 u3 hp3 => ?_)
                obtain ⟨rfl, e3⟩ := hp3
                obtain rfl := e3.symm
                simp only [Option.toList_some, List.cons_append, List.nil_append]
                refine w_l2i h (pc := 111) dX1_refine_111 ?_
                refine st_chances h (pc := 112) (by omega) dX1_refine_112 ?_
                refine w_iinc h (pc := 113) dX1_refine_113 rfl (by decide) ?_
                refine w_goto h (pc := 116) (tgt := 73) dX1_refine_116 (by decide) ?_
                refine WW.sub (by rfl) (ih (j + 1) _ (by omega) (by omega) (hFw.tr (Fr.A (by simp))) (fun x hx => ?_) hS3 hK3 (fun x hx => ?_))
                · rw [uA_ne _ _ (by decide)]; exact hownw x hx
                · rw [uA_at]
                  unfold upI
                  by_cases e : x = j
                  · subst e
                    rw [if_pos (by omega), if_pos (by omega)]
                    unfold rf
                    rw [if_neg hnz, if_pos hx]
                  · rw [if_neg (by omega), hch x hx]
                    by_cases e2 : x < j
                    · rw [if_pos e2, if_pos (by omega)]
                    · rw [if_neg e2, if_neg (by omega)]
          exact WW.sub (by rfl) (lp73 (V + 2) 0 _ (by omega) (by omega) (hF.mono (by simp) (by simp)) hown hS hK (fun x hx => by rw [if_neg (by omega)]; exact hp2 x hx))
        · exact w_vret h (pc := 69) rfl dX1_refine_69 (Nat.le_of_ble_eq_true rfl) (Nat.le_of_ble_eq_true rfl) ⟨rfl, hF.mono (by simp) (by simp), fun w hw => by rw [hp2 w hw]; unfold rf; rw [if_pos ⟨by omega, by omega⟩]⟩
    · refine w_iconst h (pc := 19) dX1_refine_19 ?_
      refine w_goto h (pc := 20) (tgt := 24) dX1_refine_20 (by decide) ?_
      refine w_istore_n h (pc := 24) dX1_refine_24 (by decide) ?_
      refine w_aload_n h (pc := 25) dX1_refine_25 rfl ?_
      refine w_iload_n h (pc := 26) dX1_refine_26 rfl ?_
      refine w_if_eq h (pc := 27) (tgt := 41) dX1_refine_27 (by decide) (by omega) (fun c27 => by exfalso; omega) (fun c27 => ?_)
      refine w_aload_n h (pc := 30) dX1_refine_30 rfl ?_
      refine g2_ledger h (pc := 31) wm_64 dX1_refine_31 ?_
      refine w_iload_n h (pc := 34) dX1_refine_34 rfl ?_
      refine w_callV1 h (pc := 35) (mX0_varietyOf l D κ a ε u n (by omega)) 1 rfl rfl (gdV wm_313 wm_131 wm_132 wm_15 wm_133) (by decide +kernel) ⟨(Nat.le_of_ble_eq_true rfl), (Nat.le_of_ble_eq_true rfl)⟩ ⟨(Nat.le_of_ble_eq_true rfl), (Nat.le_of_ble_eq_true rfl)⟩ (fun _ _ _ => ⟨rfl, rfl⟩) (Nat.le_of_ble_eq_true rfl) dX1_refine_35 (fun v1 u1 hp1 => ?_)
      obtain ⟨rfl, e1⟩ := hp1
      obtain rfl := e1.symm
      simp only [Option.toList_some, List.cons_append, List.nil_append]
      obtain ⟨i, hi, hTi, hix⟩ : ∃ i, i < 8 ∧ T i = (tl way N (fun n => T (n - 1)) (fun n => T (n + 3)) n) ∧ n + 3 = i := ⟨n + 3, by omega, by unfold tl; rw [if_pos (by omega)], rfl⟩
      rw [hix]
      refine w_goto h (pc := 38) (tgt := 49) dX1_refine_38 (by decide) ?_
      first
      | (obtain ⟨i, hi, hTi, hix⟩ : ∃ i, i < 8 ∧ T i = (tl way N (fun n => T (n - 1)) (fun n => T (n + 3)) n) ∧ n - 1 = i := ⟨n - 1, by omega, by unfold tl; rw [if_neg (by omega)], rfl⟩
         rw [hix])
      | skip
      refine w_iload_n h (pc := 49) dX1_refine_49 rfl ?_
      refine w_callV2 h (pc := 50) (mX1_gather l D κ a ε V m u hV hm _ hi (T i) (hT i hi).1 (hT i hi).2 c hc) 2 rfl rfl (gdV wm_315 wm_282 wm_283 wm_19 wm_284) (by decide +kernel) ⟨(Nat.le_of_ble_eq_true rfl), (Nat.le_of_ble_eq_true rfl)⟩ ⟨(Nat.le_of_ble_eq_true rfl), (Nat.le_of_ble_eq_true rfl)⟩ (fun _ _ _ => ⟨rfl, rfl⟩) (Nat.le_of_ble_eq_true rfl) dX1_refine_50 (fun v2 u2 hp2 => ?_)
      obtain ⟨rfl, hF, hown, hS, hK⟩ := hp2
      rw [hTi] at hown hS hK
      have eV2 : u2.1 4 = (V : Int) := (hF.1 4 (by simp)).trans eV
      have ew2 : u2.1 6 = (way : Int) := (hF.1 6 (by simp)).trans ew
      have en2 : u2.1 7 = (num : Int) := (hF.1 7 (by simp)).trans en
      have hSb : rfS (tl way N (fun n => T (n - 1)) (fun n => T (n + 3)) n) c V ≤ 13 * (4 * m) := by rw [← hTi]; exact rfS_le (hT i hi).2 hV
      have hKb := kd_n (c := fun w => gt (tl way N (fun n => T (n - 1)) (fun n => T (n + 3)) n) (c * 14 + w + 1)) (V + 1)
      have hp2 : ∀ w, w ≤ V → u2.2 9 w = (p w : Int) := fun w hw => by rw [hF.2 9 (by simp)]; exact (hp w hw).1
      simp only [Option.toList_none, List.nil_append]
      refine w_aload_n h (pc := 53) dX1_refine_53 rfl ?_
      refine g2_way h (pc := 54) ew2 wm_58 dX1_refine_54 ?_
      refine w_if_eq h (pc := 57) (tgt := 70) dX1_refine_57 (by decide) (by omega) (fun c57 => ?_) (fun c57 => ?_)
      · have hnz : ¬ (way ≠ 0 ∧ rfS (tl way N (fun n => T (n - 1)) (fun n => T (n + 3)) n) c V = 0) := by omega
        have hS0 : way = 0 ∨ 0 < rfS (tl way N (fun n => T (n - 1)) (fun n => T (n + 3)) n) c V := by omega
        refine w_iconst h (pc := 70) dX1_refine_70 ?_
        refine w_istore h (pc := 71) dX1_refine_71 (by decide) ?_
        have lp73 : ∀ (n9 j : Nat) (w : US), V + 1 < j + n9 → j ≤ V + 1 → Fr [8, 9] [9, 10] u w → (∀ x, x ≤ V → w.2 10 x = (gt (tl way N (fun n => T (n - 1)) (fun n => T (n + 3)) n) (c * 14 + x + 1) : Int)) → w.1 8 = (rfS (tl way N (fun n => T (n - 1)) (fun n => T (n + 3)) n) c V : Int) → w.1 9 = (kd (fun w => gt (tl way N (fun n => T (n - 1)) (fun n => T (n + 3)) n) (c * 14 + w + 1)) (V + 1) : Int) → (∀ x, x ≤ V → w.2 9 x = if x < j then (rf way num V (tl way N (fun n => T (n - 1)) (fun n => T (n + 3)) n) c p x : Int) else (p x : Int)) → WW Γ 5 w 73 [(0, .ref (a 2)), (4, .int (iI (j : Int)))] [] := by
          intro n9
          induction n9 with
          | zero => intro j w hn9 hj hFw hownw hS3 hK3 hch; exfalso; omega
          | succ n9 ih =>
            intro j w hn9 hj hFw hownw hS3 hK3 hch
            have eV3 : w.1 4 = (V : Int) := (hFw.1 4 (by simp)).trans eV
            have ew3 : w.1 6 = (way : Int) := (hFw.1 6 (by simp)).trans ew
            have en3 : w.1 7 = (num : Int) := (hFw.1 7 (by simp)).trans en
            refine w_iload h (pc := 73) dX1_refine_73 rfl ?_
            refine w_aload_n h (pc := 75) dX1_refine_75 rfl ?_
            refine g2_ledger h (pc := 76) wm_64 dX1_refine_76 ?_
            refine g1_words h (pc := 79) eV3 wm_307 dX1_refine_79 ?_
            refine w_icmp_gt h (pc := 82) (tgt := 119) dX1_refine_82 (by decide) (by omega) (by omega) (fun c82 => ?_) (fun c82 => ?_)
            · exact w_vret h (pc := 119) rfl dX1_refine_119 (Nat.le_of_ble_eq_true rfl) (Nat.le_of_ble_eq_true rfl) ⟨rfl, hFw, fun w9 hw9 => (hch w9 hw9).trans (if_pos (by omega))⟩
            · have hgr := gt_rfS (t := (tl way N (fun n => T (n - 1)) (fun n => T (n + 3)) n)) (c := c) (w := j) (V := V) (by omega)
              have hpj := (hp j (by omega)).2
              refine w_aload_n h (pc := 85) dX1_refine_85 rfl ?_
              refine g2_chances h (pc := 86) wm_60 dX1_refine_86 ?_
              refine w_iload h (pc := 89) dX1_refine_89 rfl ?_
              refine w_aload_n h (pc := 91) dX1_refine_91 rfl ?_
              refine w_aload_n h (pc := 92) dX1_refine_92 rfl ?_
              refine g2_own h (pc := 93) wm_61 dX1_refine_93 ?_
              refine w_iload h (pc := 96) dX1_refine_96 rfl ?_
              refine ld_own h (pc := 98) (by omega) (hownw j (by omega)) dX1_refine_98 ?_
              refine w_i2l h (pc := 99) dX1_refine_99 (by omega) ?_
              refine w_aload_n h (pc := 100) dX1_refine_100 rfl ?_
              refine g2_chances h (pc := 101) wm_60 dX1_refine_101 ?_
              refine w_iload h (pc := 104) dX1_refine_104 rfl ?_
              refine ld_chances h (pc := 106) (by omega) ((hch j (by omega)).trans (if_neg (by omega))) dX1_refine_106 ?_
              refine w_i2l h (pc := 107) dX1_refine_107 (by omega) ?_
              refine w_callV2 h (pc := 108) (mX1_blend l D κ a ε V way num (gt (tl way N (fun n => T (n - 1)) (fun n => T (n + 3)) n) (c * 14 + j + 1)) (rfS (tl way N (fun n => T (n - 1)) (fun n => T (n + 3)) n) c V) (kd (fun w => gt (tl way N (fun n => T (n - 1)) (fun n => T (n + 3)) n) (c * 14 + w + 1)) (V + 1)) (p j) w hV hway hnum (gt_rfS (by omega)) (by omega) (by omega) (hp j (by omega)).2 hS0 eV3 ew3 en3 hS3 hK3) 2 rfl rfl (gdV wm_316 wm_317 wm_318 wm_19 wm_319) (by decide +kernel) ⟨(Nat.le_of_ble_eq_true rfl), (Nat.le_of_ble_eq_true rfl)⟩ ⟨(Nat.le_of_ble_eq_true rfl), (Nat.le_of_ble_eq_true rfl)⟩ (fun _ _ _ => ⟨rfl, rfl⟩) (Nat.le_of_ble_eq_true rfl) dX1_refine_108 (fun v3 u3 hp3 => ?_)
              obtain ⟨rfl, e3⟩ := hp3
              obtain rfl := e3.symm
              simp only [Option.toList_some, List.cons_append, List.nil_append]
              refine w_l2i h (pc := 111) dX1_refine_111 ?_
              refine st_chances h (pc := 112) (by omega) dX1_refine_112 ?_
              refine w_iinc h (pc := 113) dX1_refine_113 rfl (by decide) ?_
              refine w_goto h (pc := 116) (tgt := 73) dX1_refine_116 (by decide) ?_
              refine WW.sub (by rfl) (ih (j + 1) _ (by omega) (by omega) (hFw.tr (Fr.A (by simp))) (fun x hx => ?_) hS3 hK3 (fun x hx => ?_))
              · rw [uA_ne _ _ (by decide)]; exact hownw x hx
              · rw [uA_at]
                unfold upI
                by_cases e : x = j
                · subst e
                  rw [if_pos (by omega), if_pos (by omega)]
                  unfold rf
                  rw [if_neg hnz, if_pos hx]
                · rw [if_neg (by omega), hch x hx]
                  by_cases e2 : x < j
                  · rw [if_pos e2, if_pos (by omega)]
                  · rw [if_neg e2, if_neg (by omega)]
        exact WW.sub (by rfl) (lp73 (V + 2) 0 _ (by omega) (by omega) (hF.mono (by simp) (by simp)) hown hS hK (fun x hx => by rw [if_neg (by omega)]; exact hp2 x hx))
      · refine w_aload_n h (pc := 60) dX1_refine_60 rfl ?_
        refine g2_sum h (pc := 61) hS wm_62 dX1_refine_61 ?_
        refine w_lconst h (pc := 64) (z := 0) dX1_refine_64 (by decide) ?_
        refine w_lcmp h (pc := 65) dX1_refine_65 ?_
        refine w_lif_gt h (pc := 66) (tgt := 70) dX1_refine_66 (by decide) (by omega) (by omega) (fun c66 => ?_) (fun c66 => ?_)
        · have hnz : ¬ (way ≠ 0 ∧ rfS (tl way N (fun n => T (n - 1)) (fun n => T (n + 3)) n) c V = 0) := by omega
          have hS0 : way = 0 ∨ 0 < rfS (tl way N (fun n => T (n - 1)) (fun n => T (n + 3)) n) c V := by omega
          refine w_iconst h (pc := 70) dX1_refine_70 ?_
          refine w_istore h (pc := 71) dX1_refine_71 (by decide) ?_
          have lp73 : ∀ (n9 j : Nat) (w : US), V + 1 < j + n9 → j ≤ V + 1 → Fr [8, 9] [9, 10] u w → (∀ x, x ≤ V → w.2 10 x = (gt (tl way N (fun n => T (n - 1)) (fun n => T (n + 3)) n) (c * 14 + x + 1) : Int)) → w.1 8 = (rfS (tl way N (fun n => T (n - 1)) (fun n => T (n + 3)) n) c V : Int) → w.1 9 = (kd (fun w => gt (tl way N (fun n => T (n - 1)) (fun n => T (n + 3)) n) (c * 14 + w + 1)) (V + 1) : Int) → (∀ x, x ≤ V → w.2 9 x = if x < j then (rf way num V (tl way N (fun n => T (n - 1)) (fun n => T (n + 3)) n) c p x : Int) else (p x : Int)) → WW Γ 5 w 73 [(0, .ref (a 2)), (4, .int (iI (j : Int)))] [] := by
            intro n9
            induction n9 with
            | zero => intro j w hn9 hj hFw hownw hS3 hK3 hch; exfalso; omega
            | succ n9 ih =>
              intro j w hn9 hj hFw hownw hS3 hK3 hch
              have eV3 : w.1 4 = (V : Int) := (hFw.1 4 (by simp)).trans eV
              have ew3 : w.1 6 = (way : Int) := (hFw.1 6 (by simp)).trans ew
              have en3 : w.1 7 = (num : Int) := (hFw.1 7 (by simp)).trans en
              refine w_iload h (pc := 73) dX1_refine_73 rfl ?_
              refine w_aload_n h (pc := 75) dX1_refine_75 rfl ?_
              refine g2_ledger h (pc := 76) wm_64 dX1_refine_76 ?_
              refine g1_words h (pc := 79) eV3 wm_307 dX1_refine_79 ?_
              refine w_icmp_gt h (pc := 82) (tgt := 119) dX1_refine_82 (by decide) (by omega) (by omega) (fun c82 => ?_) (fun c82 => ?_)
              · exact w_vret h (pc := 119) rfl dX1_refine_119 (Nat.le_of_ble_eq_true rfl) (Nat.le_of_ble_eq_true rfl) ⟨rfl, hFw, fun w9 hw9 => (hch w9 hw9).trans (if_pos (by omega))⟩
              · have hgr := gt_rfS (t := (tl way N (fun n => T (n - 1)) (fun n => T (n + 3)) n)) (c := c) (w := j) (V := V) (by omega)
                have hpj := (hp j (by omega)).2
                refine w_aload_n h (pc := 85) dX1_refine_85 rfl ?_
                refine g2_chances h (pc := 86) wm_60 dX1_refine_86 ?_
                refine w_iload h (pc := 89) dX1_refine_89 rfl ?_
                refine w_aload_n h (pc := 91) dX1_refine_91 rfl ?_
                refine w_aload_n h (pc := 92) dX1_refine_92 rfl ?_
                refine g2_own h (pc := 93) wm_61 dX1_refine_93 ?_
                refine w_iload h (pc := 96) dX1_refine_96 rfl ?_
                refine ld_own h (pc := 98) (by omega) (hownw j (by omega)) dX1_refine_98 ?_
                refine w_i2l h (pc := 99) dX1_refine_99 (by omega) ?_
                refine w_aload_n h (pc := 100) dX1_refine_100 rfl ?_
                refine g2_chances h (pc := 101) wm_60 dX1_refine_101 ?_
                refine w_iload h (pc := 104) dX1_refine_104 rfl ?_
                refine ld_chances h (pc := 106) (by omega) ((hch j (by omega)).trans (if_neg (by omega))) dX1_refine_106 ?_
                refine w_i2l h (pc := 107) dX1_refine_107 (by omega) ?_
                refine w_callV2 h (pc := 108) (mX1_blend l D κ a ε V way num (gt (tl way N (fun n => T (n - 1)) (fun n => T (n + 3)) n) (c * 14 + j + 1)) (rfS (tl way N (fun n => T (n - 1)) (fun n => T (n + 3)) n) c V) (kd (fun w => gt (tl way N (fun n => T (n - 1)) (fun n => T (n + 3)) n) (c * 14 + w + 1)) (V + 1)) (p j) w hV hway hnum (gt_rfS (by omega)) (by omega) (by omega) (hp j (by omega)).2 hS0 eV3 ew3 en3 hS3 hK3) 2 rfl rfl (gdV wm_316 wm_317 wm_318 wm_19 wm_319) (by decide +kernel) ⟨(Nat.le_of_ble_eq_true rfl), (Nat.le_of_ble_eq_true rfl)⟩ ⟨(Nat.le_of_ble_eq_true rfl), (Nat.le_of_ble_eq_true rfl)⟩ (fun _ _ _ => ⟨rfl, rfl⟩) (Nat.le_of_ble_eq_true rfl) dX1_refine_108 (fun v3 u3 hp3 => ?_)
                obtain ⟨rfl, e3⟩ := hp3
                obtain rfl := e3.symm
                simp only [Option.toList_some, List.cons_append, List.nil_append]
                refine w_l2i h (pc := 111) dX1_refine_111 ?_
                refine st_chances h (pc := 112) (by omega) dX1_refine_112 ?_
                refine w_iinc h (pc := 113) dX1_refine_113 rfl (by decide) ?_
                refine w_goto h (pc := 116) (tgt := 73) dX1_refine_116 (by decide) ?_
                refine WW.sub (by rfl) (ih (j + 1) _ (by omega) (by omega) (hFw.tr (Fr.A (by simp))) (fun x hx => ?_) hS3 hK3 (fun x hx => ?_))
                · rw [uA_ne _ _ (by decide)]; exact hownw x hx
                · rw [uA_at]
                  unfold upI
                  by_cases e : x = j
                  · subst e
                    rw [if_pos (by omega), if_pos (by omega)]
                    unfold rf
                    rw [if_neg hnz, if_pos hx]
                  · rw [if_neg (by omega), hch x hx]
                    by_cases e2 : x < j
                    · rw [if_pos e2, if_pos (by omega)]
                    · rw [if_neg e2, if_neg (by omega)]
          exact WW.sub (by rfl) (lp73 (V + 2) 0 _ (by omega) (by omega) (hF.mono (by simp) (by simp)) hown hS hK (fun x hx => by rw [if_neg (by omega)]; exact hp2 x hx))
        · exact w_vret h (pc := 69) rfl dX1_refine_69 (Nat.le_of_ble_eq_true rfl) (Nat.le_of_ble_eq_true rfl) ⟨rfl, hF.mono (by simp) (by simp), fun w hw => by rw [hp2 w hw]; unfold rf; rw [if_pos ⟨by omega, by omega⟩]⟩
end
section
/-- the first place below n where P holds, else n -/
def fst9 (P : Nat → Prop) [DecidablePred P] : Nat → Nat
  | 0 => 0
  | n + 1 => if fst9 P n < n then fst9 P n else if P n then n else n + 1
theorem fst9_no {P : Nat → Prop} [DecidablePred P] : ∀ {n : Nat}, (∀ x, x < n → ¬ P x) → fst9 P n = n
  | 0, _ => rfl
  | n + 1, h => by
    unfold fst9
    rw [fst9_no (fun x hx => h x (by omega)), if_neg (by omega), if_neg (h n (by omega))]
theorem fst9_at {P : Nat → Prop} [DecidablePred P] : ∀ {n j : Nat}, j < n → P j → (∀ x, x < j → ¬ P x) → fst9 P n = j
  | 0, j, hj, _, _ => absurd hj (Nat.not_lt_zero j)
  | n + 1, j, hj, hp, h => by
    unfold fst9
    rcases Nat.lt_or_ge j n with q | q
    · rw [fst9_at q hp h, if_pos q]
    · have e : j = n := by omega
      subst e
      rw [fst9_no h, if_neg (by omega), if_pos hp]
/-- the word with a rank -/
def fw (p : Nat → Nat) (V r : Nat) : Nat := fst9 (fun w => rk p (V + 1) w = r) V
theorem fw_ok {p : Nat → Nat} {V r : Nat} (hr : r ≤ V) : fw p V r ≤ V ∧ rk p (V + 1) (fw p V r) = r := by
  obtain ⟨w, hw, e⟩ := rk_ex (c := p) (n := V + 1) (r := r) (by omega)
  have only : ∀ x, x < V + 1 → rk p (V + 1) x = r → x = w := fun x hx hq => rk_inj hx hw (hq.trans e.symm)
  unfold fw
  rcases Nat.lt_or_ge w V with q | q
  · rw [fst9_at q e (fun x hx hq => by have := only x (by omega) hq; omega)]
    exact ⟨by omega, e⟩
  · have e2 : w = V := by omega
    subst e2
    rw [fst9_no (fun x hx hq => by have := only x (by omega) hq; omega)]
    exact ⟨Nat.le_refl _, e⟩
theorem shl_1 {j : Nat} (h : j < 16) : (iI 1 : Int32) <<< (iI (j : Int) &&& 31) = iI ((2 ^ j : Nat) : Int) := by
  rcases (by omega : j = 0 ∨ j = 1 ∨ j = 2 ∨ j = 3 ∨ j = 4 ∨ j = 5 ∨ j = 6 ∨ j = 7 ∨ j = 8 ∨ j = 9 ∨ j = 10 ∨ j = 11 ∨ j = 12 ∨ j = 13 ∨ j = 14 ∨ j = 15) with rfl | rfl | rfl | rfl | rfl | rfl | rfl | rfl | rfl | rfl | rfl | rfl | rfl | rfl | rfl | rfl <;> decide +kernel
theorem or_0 (x : Int32) : iI 0 ||| x = x := by
  show (0 : Int32) ||| x = x
  exact Int32.zero_or
/-- the bits of a set of all, of one -/
theorem bit_all {V w : Nat} (hV : V ≤ 12) (hw : w ≤ V) : (iI ((2 ^ (V + 1) - 1 : Nat) : Int) >>> (iI (w : Int) &&& 31)) &&& iI 1 = iI 1 := by
  have key : ∀ V : Nat, V < 13 → ∀ w : Nat, w < V + 1 → (iI ((2 ^ (V + 1) - 1 : Nat) : Int) >>> (iI (w : Int) &&& 31)) &&& iI 1 = iI 1 := by decide +kernel
  exact key V (by omega) w (by omega)
theorem bit_one {w0 w : Nat} (h0 : w0 < 13) (hw : w < 13) : (iI ((2 ^ w0 : Nat) : Int) >>> (iI (w : Int) &&& 31)) &&& iI 1 = iI (if w = w0 then 1 else 0) := by
  have key : ∀ w0 : Nat, w0 < 13 → ∀ w : Nat, w < 13 → (iI ((2 ^ w0 : Nat) : Int) >>> (iI (w : Int) &&& 31)) &&& iI 1 = iI (if w = w0 then 1 else 0) := by decide +kernel
  exact key w0 h0 w hw
theorem shr_any (x y : Int32) : ∃ z : Int, x >>> (y &&& 31) = iI z := ⟨(x >>> (y &&& 31)).toInt, (Int32.ofInt_toInt _).symm⟩
/-- the sum from the top down to j -/
theorem sm_top {f : Nat → Nat} {n : Nat} : ∀ j : Nat, j ≤ n → sm f n = sm f j + sm (fun i => f (j + i)) (n - j) := by
  intro j hj
  induction n with
  | zero =>
    have : j = 0 := by omega
    subst this; rfl
  | succ n ih =>
    rcases Nat.lt_or_ge n j with q | q
    · have : j = n + 1 := by omega
      subst this
      rw [Nat.sub_self]; rfl
    · rw [sm_s, ih q, show n + 1 - j = (n - j) + 1 by omega, sm_s, show j + (n - j) = n by omega]
      omega
end
section
theorem dX1_isLikelier_0 : decode cX1_isLikelier 0 = .ok (.aload_n 0, 1) := by decide +kernel
theorem dX1_isLikelier_1 : decode cX1_isLikelier 1 = .ok (.getfield 18, 3) := by decide +kernel
theorem dX1_isLikelier_4 : decode cX1_isLikelier 4 = .ok (.iload_n 1, 1) := by decide +kernel
theorem dX1_isLikelier_5 : decode cX1_isLikelier 5 = .ok (.iaload, 1) := by decide +kernel
theorem dX1_isLikelier_6 : decode cX1_isLikelier 6 = .ok (.aload_n 0, 1) := by decide +kernel
theorem dX1_isLikelier_7 : decode cX1_isLikelier 7 = .ok (.getfield 18, 3) := by decide +kernel
theorem dX1_isLikelier_10 : decode cX1_isLikelier 10 = .ok (.iload_n 2, 1) := by decide +kernel
theorem dX1_isLikelier_11 : decode cX1_isLikelier 11 = .ok (.iaload, 1) := by decide +kernel
theorem dX1_isLikelier_12 : decode cX1_isLikelier 12 = .ok (.if_icmp .eq 24, 3) := by decide +kernel
theorem dX1_isLikelier_15 : decode cX1_isLikelier 15 = .ok (.aload_n 0, 1) := by decide +kernel
theorem dX1_isLikelier_16 : decode cX1_isLikelier 16 = .ok (.getfield 18, 3) := by decide +kernel
theorem dX1_isLikelier_19 : decode cX1_isLikelier 19 = .ok (.iload_n 1, 1) := by decide +kernel
theorem dX1_isLikelier_20 : decode cX1_isLikelier 20 = .ok (.iaload, 1) := by decide +kernel
theorem dX1_isLikelier_21 : decode cX1_isLikelier 21 = .ok (.aload_n 0, 1) := by decide +kernel
theorem dX1_isLikelier_22 : decode cX1_isLikelier 22 = .ok (.getfield 18, 3) := by decide +kernel
theorem dX1_isLikelier_25 : decode cX1_isLikelier 25 = .ok (.iload_n 2, 1) := by decide +kernel
theorem dX1_isLikelier_26 : decode cX1_isLikelier 26 = .ok (.iaload, 1) := by decide +kernel
theorem dX1_isLikelier_27 : decode cX1_isLikelier 27 = .ok (.if_icmp .le 7, 3) := by decide +kernel
theorem dX1_isLikelier_30 : decode cX1_isLikelier 30 = .ok (.iconst 1, 1) := by decide +kernel
theorem dX1_isLikelier_31 : decode cX1_isLikelier 31 = .ok (.goto 4, 3) := by decide +kernel
theorem dX1_isLikelier_34 : decode cX1_isLikelier 34 = .ok (.iconst 0, 1) := by decide +kernel
theorem dX1_isLikelier_35 : decode cX1_isLikelier 35 = .ok (.ireturn, 1) := by decide +kernel
theorem dX1_isLikelier_36 : decode cX1_isLikelier 36 = .ok (.iload_n 1, 1) := by decide +kernel
theorem dX1_isLikelier_37 : decode cX1_isLikelier 37 = .ok (.iload_n 2, 1) := by decide +kernel
theorem dX1_isLikelier_38 : decode cX1_isLikelier 38 = .ok (.if_icmp .ge 7, 3) := by decide +kernel
theorem dX1_isLikelier_41 : decode cX1_isLikelier 41 = .ok (.iconst 1, 1) := by decide +kernel
theorem dX1_isLikelier_42 : decode cX1_isLikelier 42 = .ok (.goto 4, 3) := by decide +kernel
theorem dX1_isLikelier_45 : decode cX1_isLikelier 45 = .ok (.iconst 0, 1) := by decide +kernel
theorem dX1_isLikelier_46 : decode cX1_isLikelier 46 = .ok (.ireturn, 1) := by decide +kernel
theorem dX1_likeliest_0 : decode cX1_likeliest 0 = .ok (.iconst 0, 1) := by decide +kernel
theorem dX1_likeliest_1 : decode cX1_likeliest 1 = .ok (.istore_n 2, 1) := by decide +kernel
theorem dX1_likeliest_2 : decode cX1_likeliest 2 = .ok (.iconst 0, 1) := by decide +kernel
theorem dX1_likeliest_3 : decode cX1_likeliest 3 = .ok (.istore_n 3, 1) := by decide +kernel
theorem dX1_likeliest_4 : decode cX1_likeliest 4 = .ok (.iload_n 3, 1) := by decide +kernel
theorem dX1_likeliest_5 : decode cX1_likeliest 5 = .ok (.aload_n 0, 1) := by decide +kernel
theorem dX1_likeliest_6 : decode cX1_likeliest 6 = .ok (.getfield 32, 3) := by decide +kernel
theorem dX1_likeliest_9 : decode cX1_likeliest 9 = .ok (.getfield 37, 3) := by decide +kernel
theorem dX1_likeliest_12 : decode cX1_likeliest 12 = .ok (.if_icmp .gt 24, 3) := by decide +kernel
theorem dX1_likeliest_15 : decode cX1_likeliest 15 = .ok (.aload_n 0, 1) := by decide +kernel
theorem dX1_likeliest_16 : decode cX1_likeliest 16 = .ok (.iload_n 3, 1) := by decide +kernel
theorem dX1_likeliest_17 : decode cX1_likeliest 17 = .ok (.invokevirtual 101, 3) := by decide +kernel
theorem dX1_likeliest_20 : decode cX1_likeliest 20 = .ok (.iload_n 1, 1) := by decide +kernel
theorem dX1_likeliest_21 : decode cX1_likeliest 21 = .ok (.if_icmp .ge 9, 3) := by decide +kernel
theorem dX1_likeliest_24 : decode cX1_likeliest 24 = .ok (.iload_n 2, 1) := by decide +kernel
theorem dX1_likeliest_25 : decode cX1_likeliest 25 = .ok (.iconst 1, 1) := by decide +kernel
theorem dX1_likeliest_26 : decode cX1_likeliest 26 = .ok (.iload_n 3, 1) := by decide +kernel
theorem dX1_likeliest_27 : decode cX1_likeliest 27 = .ok (.ishl, 1) := by decide +kernel
theorem dX1_likeliest_28 : decode cX1_likeliest 28 = .ok (.ior, 1) := by decide +kernel
theorem dX1_likeliest_29 : decode cX1_likeliest 29 = .ok (.istore_n 2, 1) := by decide +kernel
theorem dX1_likeliest_30 : decode cX1_likeliest 30 = .ok (.iinc 3 1, 3) := by decide +kernel
theorem dX1_likeliest_33 : decode cX1_likeliest 33 = .ok (.goto (-29), 3) := by decide +kernel
theorem dX1_likeliest_36 : decode cX1_likeliest 36 = .ok (.iload_n 2, 1) := by decide +kernel
theorem dX1_likeliest_37 : decode cX1_likeliest 37 = .ok (.ireturn, 1) := by decide +kernel
theorem dX1_rankOf_0 : decode cX1_rankOf 0 = .ok (.iconst 0, 1) := by decide +kernel
theorem dX1_rankOf_1 : decode cX1_rankOf 1 = .ok (.istore_n 2, 1) := by decide +kernel
theorem dX1_rankOf_2 : decode cX1_rankOf 2 = .ok (.iconst 0, 1) := by decide +kernel
theorem dX1_rankOf_3 : decode cX1_rankOf 3 = .ok (.istore_n 3, 1) := by decide +kernel
theorem dX1_rankOf_4 : decode cX1_rankOf 4 = .ok (.iload_n 3, 1) := by decide +kernel
theorem dX1_rankOf_5 : decode cX1_rankOf 5 = .ok (.aload_n 0, 1) := by decide +kernel
theorem dX1_rankOf_6 : decode cX1_rankOf 6 = .ok (.getfield 32, 3) := by decide +kernel
theorem dX1_rankOf_9 : decode cX1_rankOf 9 = .ok (.getfield 37, 3) := by decide +kernel
theorem dX1_rankOf_12 : decode cX1_rankOf 12 = .ok (.if_icmp .gt 21, 3) := by decide +kernel
theorem dX1_rankOf_15 : decode cX1_rankOf 15 = .ok (.aload_n 0, 1) := by decide +kernel
theorem dX1_rankOf_16 : decode cX1_rankOf 16 = .ok (.iload_n 3, 1) := by decide +kernel
theorem dX1_rankOf_17 : decode cX1_rankOf 17 = .ok (.iload_n 1, 1) := by decide +kernel
theorem dX1_rankOf_18 : decode cX1_rankOf 18 = .ok (.invokevirtual 97, 3) := by decide +kernel
theorem dX1_rankOf_21 : decode cX1_rankOf 21 = .ok (.ifCond .eq 6, 3) := by decide +kernel
theorem dX1_rankOf_24 : decode cX1_rankOf 24 = .ok (.iinc 2 1, 3) := by decide +kernel
theorem dX1_rankOf_27 : decode cX1_rankOf 27 = .ok (.iinc 3 1, 3) := by decide +kernel
theorem dX1_rankOf_30 : decode cX1_rankOf 30 = .ok (.goto (-26), 3) := by decide +kernel
theorem dX1_rankOf_33 : decode cX1_rankOf 33 = .ok (.iload_n 2, 1) := by decide +kernel
theorem dX1_rankOf_34 : decode cX1_rankOf 34 = .ok (.ireturn, 1) := by decide +kernel
theorem dX1_reckon_0 : decode cX1_reckon 0 = .ok (.aload_n 0, 1) := by decide +kernel
theorem dX1_reckon_1 : decode cX1_reckon 1 = .ok (.getfield 18, 3) := by decide +kernel
theorem dX1_reckon_4 : decode cX1_reckon 4 = .ok (.ldc 36, 2) := by decide +kernel
theorem dX1_reckon_6 : decode cX1_reckon 6 = .ok (.aload_n 0, 1) := by decide +kernel
theorem dX1_reckon_7 : decode cX1_reckon 7 = .ok (.getfield 32, 3) := by decide +kernel
theorem dX1_reckon_10 : decode cX1_reckon 10 = .ok (.getfield 37, 3) := by decide +kernel
theorem dX1_reckon_13 : decode cX1_reckon 13 = .ok (.iconst 1, 1) := by decide +kernel
theorem dX1_reckon_14 : decode cX1_reckon 14 = .ok (.iadd, 1) := by decide +kernel
theorem dX1_reckon_15 : decode cX1_reckon 15 = .ok (.idiv, 1) := by decide +kernel
theorem dX1_reckon_16 : decode cX1_reckon 16 = .ok (.invokestatic 42, 3) := by decide +kernel
theorem dX1_reckon_19 : decode cX1_reckon 19 = .ok (.aload_n 0, 1) := by decide +kernel
theorem dX1_reckon_20 : decode cX1_reckon 20 = .ok (.getfield 9, 3) := by decide +kernel
theorem dX1_reckon_23 : decode cX1_reckon 23 = .ok (.ifCond .ne 7, 3) := by decide +kernel
theorem dX1_reckon_26 : decode cX1_reckon 26 = .ok (.iload_n 1, 1) := by decide +kernel
theorem dX1_reckon_27 : decode cX1_reckon 27 = .ok (.goto 4, 3) := by decide +kernel
theorem dX1_reckon_30 : decode cX1_reckon 30 = .ok (.iconst 1, 1) := by decide +kernel
theorem dX1_reckon_31 : decode cX1_reckon 31 = .ok (.istore_n 3, 1) := by decide +kernel
theorem dX1_reckon_32 : decode cX1_reckon 32 = .ok (.iload_n 3, 1) := by decide +kernel
theorem dX1_reckon_33 : decode cX1_reckon 33 = .ok (.iload_n 1, 1) := by decide +kernel
theorem dX1_reckon_34 : decode cX1_reckon 34 = .ok (.if_icmp .gt 23, 3) := by decide +kernel
theorem dX1_reckon_37 : decode cX1_reckon 37 = .ok (.aload_n 0, 1) := by decide +kernel
theorem dX1_reckon_38 : decode cX1_reckon 38 = .ok (.iload_n 3, 1) := by decide +kernel
theorem dX1_reckon_39 : decode cX1_reckon 39 = .ok (.iload_n 2, 1) := by decide +kernel
theorem dX1_reckon_40 : decode cX1_reckon 40 = .ok (.getstatic 48, 3) := by decide +kernel
theorem dX1_reckon_43 : decode cX1_reckon 43 = .ok (.iload_n 3, 1) := by decide +kernel
theorem dX1_reckon_44 : decode cX1_reckon 44 = .ok (.iconst 1, 1) := by decide +kernel
theorem dX1_reckon_45 : decode cX1_reckon 45 = .ok (.isub, 1) := by decide +kernel
theorem dX1_reckon_46 : decode cX1_reckon 46 = .ok (.iaload, 1) := by decide +kernel
theorem dX1_reckon_47 : decode cX1_reckon 47 = .ok (.irem, 1) := by decide +kernel
theorem dX1_reckon_48 : decode cX1_reckon 48 = .ok (.invokevirtual 51, 3) := by decide +kernel
theorem dX1_reckon_51 : decode cX1_reckon 51 = .ok (.iinc 3 1, 3) := by decide +kernel
theorem dX1_reckon_54 : decode cX1_reckon 54 = .ok (.goto (-22), 3) := by decide +kernel
theorem dX1_reckon_57 : decode cX1_reckon 57 = .ok (.return_, 1) := by decide +kernel
theorem dX1_withRank_0 : decode cX1_withRank 0 = .ok (.iconst 0, 1) := by decide +kernel
theorem dX1_withRank_1 : decode cX1_withRank 1 = .ok (.istore_n 2, 1) := by decide +kernel
theorem dX1_withRank_2 : decode cX1_withRank 2 = .ok (.iload_n 2, 1) := by decide +kernel
theorem dX1_withRank_3 : decode cX1_withRank 3 = .ok (.aload_n 0, 1) := by decide +kernel
theorem dX1_withRank_4 : decode cX1_withRank 4 = .ok (.getfield 32, 3) := by decide +kernel
theorem dX1_withRank_7 : decode cX1_withRank 7 = .ok (.getfield 37, 3) := by decide +kernel
theorem dX1_withRank_10 : decode cX1_withRank 10 = .ok (.if_icmp .ge 20, 3) := by decide +kernel
theorem dX1_withRank_13 : decode cX1_withRank 13 = .ok (.aload_n 0, 1) := by decide +kernel
theorem dX1_withRank_14 : decode cX1_withRank 14 = .ok (.iload_n 2, 1) := by decide +kernel
theorem dX1_withRank_15 : decode cX1_withRank 15 = .ok (.invokevirtual 101, 3) := by decide +kernel
theorem dX1_withRank_18 : decode cX1_withRank 18 = .ok (.iload_n 1, 1) := by decide +kernel
theorem dX1_withRank_19 : decode cX1_withRank 19 = .ok (.if_icmp .ne 5, 3) := by decide +kernel
theorem dX1_withRank_22 : decode cX1_withRank 22 = .ok (.iload_n 2, 1) := by decide +kernel
theorem dX1_withRank_23 : decode cX1_withRank 23 = .ok (.ireturn, 1) := by decide +kernel
theorem dX1_withRank_24 : decode cX1_withRank 24 = .ok (.iinc 2 1, 3) := by decide +kernel
theorem dX1_withRank_27 : decode cX1_withRank 27 = .ok (.goto (-25), 3) := by decide +kernel
theorem dX1_withRank_30 : decode cX1_withRank 30 = .ok (.aload_n 0, 1) := by decide +kernel
theorem dX1_withRank_31 : decode cX1_withRank 31 = .ok (.getfield 32, 3) := by decide +kernel
theorem dX1_withRank_34 : decode cX1_withRank 34 = .ok (.getfield 37, 3) := by decide +kernel
theorem dX1_withRank_37 : decode cX1_withRank 37 = .ok (.ireturn, 1) := by decide +kernel
set_option maxHeartbeats 4000000 in
set_option maxRecDepth 100000 in
theorem mX1_reckon (l : Launch) (D : va_G) (κ a : Nat → Nat) (ε : Nat) (V m N way num : Nat) (u : US) (T : Nat → List (Nat × Nat)) (hV : V ≤ 12) (hm : m ≤ 800) (hN : 1 ≤ N ∧ N ≤ 4) (hway : way ≤ 4) (hnum : 1 ≤ num ∧ num ≤ 1000) (hT : TA V m u T) (eV : u.1 4 = (V : Int)) (eN : u.1 5 = (N : Int)) (ew : u.1 6 = (way : Int)) (en : u.1 7 = (num : Int)) (n : Nat) (hn : 1 ≤ n ∧ n ≤ N) (c : Nat) (hc : c < 38416) : Ct (W0 κ a) l D κ ε yX1_reckon cX1_reckon 4 none 3 73 0 0 u [.ref (a 2), .int (iI (n : Int)), .int (iI (c : Int))] (fun v u' => v = none ∧ Fr [8, 9] [9, 10] u u' ∧ ∀ w, w ≤ V → u'.2 9 w = (chs way num V N (fun n => T (n - 1)) (fun n => T (n + 3)) n c w : Int)) := by
  refine Ct.of (own := RX1) rfl (by decide +kernel) (Nat.le_of_ble_eq_true rfl) rfl (fun Γ h => ?_)
  refine w_aload_n h (pc := 0) dX1_reckon_0 rfl ?_
  refine g2_chances h (pc := 1) wm_60 dX1_reckon_1 ?_
  refine w_ldc h (pc := 4) (z := 1000000) dX1_reckon_4 wm_306 (by decide) ?_
  refine w_aload_n h (pc := 6) dX1_reckon_6 rfl ?_
  refine g2_ledger h (pc := 7) wm_64 dX1_reckon_7 ?_
  refine g1_words h (pc := 10) eV wm_307 dX1_reckon_10 ?_
  refine w_iconst h (pc := 13) dX1_reckon_13 ?_
  refine w_iadd h (pc := 14) dX1_reckon_14 ?_
  refine w_idiv h (pc := 15) dX1_reckon_15 (by omega) (by omega) ?_
  refine w_callS2 h (pc := 16) (mJ7_fill l D κ a ε u 9 13 (1000000 / ((V : Int) + 1)) (by decide) (fun _ => rfl) (fun _ _ => rfl)) (gdS wm_288 wm_289 wm_290 wm_291) (by decide +kernel) ⟨(Nat.le_of_ble_eq_true rfl), (Nat.le_of_ble_eq_true rfl)⟩ ⟨(Nat.le_of_ble_eq_true rfl), (Nat.le_of_ble_eq_true rfl)⟩ (fun _ _ _ => ⟨rfl, rfl⟩) (Nat.le_of_ble_eq_true rfl) dX1_reckon_16 (fun v1 u1 hp1 => ?_)
  obtain ⟨rfl, e1⟩ := hp1
  have hF1 : Fr [8, 9] [9, 10] u u1 := by rw [e1]; exact Fr.A (by simp)
  have hc1 : ∀ x, x ≤ V → u1.2 9 x = ((1000000 / (V + 1) : Nat) : Int) := fun x hx => by rw [e1, uA_at]; exact if_pos (by omega)
  have ew1 : u1.1 6 = (way : Int) := (hF1.1 6 (by simp)).trans ew
  obtain ⟨lo, M, hlo⟩ : ∃ lo M : Nat, (way = 0 ∧ lo = n ∧ M = 1) ∨ (way ≠ 0 ∧ lo = 1 ∧ M = n) := by
    by_cases q : way = 0
    · exact ⟨n, 1, Or.inl ⟨q, rfl, rfl⟩⟩
    · exact ⟨1, n, Or.inr ⟨q, rfl, rfl⟩⟩
  simp only [Option.toList_none, List.nil_append]
  refine w_aload_n h (pc := 19) dX1_reckon_19 rfl ?_
  refine g2_way h (pc := 20) ew1 wm_58 dX1_reckon_20 ?_
  refine w_if_ne h (pc := 23) (tgt := 30) dX1_reckon_23 (by decide) (by omega) (fun c23 => ?_) (fun c23 => ?_)
  · refine w_iconst h (pc := 30) dX1_reckon_30 ?_
    refine w_istore_n h (pc := 31) dX1_reckon_31 (by decide) ?_
    have lp32 : ∀ (n9 k : Nat) (z : Int) (w : US), z = (lo : Int) + k → M < k + n9 → k ≤ M → Fr [8, 9] [9, 10] u w → (∀ x, x ≤ V → w.2 9 x = (rcF way num V N (fun n => T (n - 1)) (fun n => T (n + 3)) c lo k x : Int)) → WW Γ 4 w 32 [(0, .ref (a 2)), (1, .int (iI (n : Int))), (2, .int (iI (c : Int))), (3, .int (iI z))] [] := by
      intro n9
      induction n9 with
      | zero => intro k z w hz hn9 hk hFw hch; exfalso; omega
      | succ n9 ih =>
        intro k z w hz hn9 hk hFw hch
        have eVw : w.1 4 = (V : Int) := (hFw.1 4 (by simp)).trans eV
        have eNw : w.1 5 = (N : Int) := (hFw.1 5 (by simp)).trans eN
        have eww : w.1 6 = (way : Int) := (hFw.1 6 (by simp)).trans ew
        have enw : w.1 7 = (num : Int) := (hFw.1 7 (by simp)).trans en
        have hTw : TA V m w T := hT.of hFw (by simp [tS]) (by simp [tG])
        refine w_iload_n h (pc := 32) dX1_reckon_32 rfl ?_
        refine w_iload_n h (pc := 33) dX1_reckon_33 rfl ?_
        refine w_icmp_gt h (pc := 34) (tgt := 57) dX1_reckon_34 (by decide) (by omega) (by omega) (fun c34 => ?_) (fun c34 => ?_)
        · have e : k = M := by omega
          have hfin : ∀ x, chs way num V N (fun n => T (n - 1)) (fun n => T (n + 3)) n c x = rcF way num V N (fun n => T (n - 1)) (fun n => T (n + 3)) c lo M x := by
            intro x
            unfold chs
            rcases hlo with ⟨q1, q2, q3⟩ | ⟨q1, q2, q3⟩
            · rw [if_pos q1, q2, q3]
            · rw [if_neg q1, q2, q3]
          exact w_vret h (pc := 57) rfl dX1_reckon_57 (Nat.le_of_ble_eq_true rfl) (Nat.le_of_ble_eq_true rfl) ⟨rfl, hFw, fun x hx => by rw [hch x hx, hfin, e]⟩
        · obtain rfl : z = ((lo + k : Nat) : Int) := by omega
          have hix : (((lo + k : Nat) : Int) - 1).toNat = lo + k - 1 := by omega
          have hpw := pw_p14 (n := lo + k - 1) (by omega)
          have hp14 := p14_cs (n := lo + k - 1) (by omega)
          have hck : c % 14 ^ (lo + k - 1) < 2744 := by
            have h1 : c % 14 ^ (lo + k - 1) < 14 ^ (lo + k - 1) := Nat.mod_lt _ (Nat.pow_pos (by omega))
            have h2 : 14 ^ (lo + k - 1) ≤ 14 ^ 3 := Nat.pow_le_pow_right (by omega) (by omega)
            omega
          have hpk : ∀ x, x ≤ V → w.2 9 x = (rcF way num V N (fun n => T (n - 1)) (fun n => T (n + 3)) c lo k x : Int) ∧ rcF way num V N (fun n => T (n - 1)) (fun n => T (n + 3)) c lo k x ≤ 1000000 := fun x hx => ⟨hch x hx, (rcF_Ch hnum k).each x (by omega)⟩
          refine w_aload_n h (pc := 37) dX1_reckon_37 rfl ?_
          refine w_iload_n h (pc := 38) dX1_reckon_38 rfl ?_
          refine w_iload_n h (pc := 39) dX1_reckon_39 rfl ?_
          refine w_powsN h (pc := 40) (fun _ z => z.1) dX1_reckon_40 ?_
          refine w_iload_n h (pc := 43) dX1_reckon_43 rfl ?_
          refine w_iconst h (pc := 44) dX1_reckon_44 ?_
          refine w_isub h (pc := 45) dX1_reckon_45 ?_
          refine w_pow h (pc := 46) (by omega) ((congrArg pw hix).trans hpw) dX1_reckon_46 ?_
          refine w_irem h (pc := 47) dX1_reckon_47 (by omega) (by omega) ?_
          refine w_callV2 h (pc := 48) (mX1_refine l D κ a ε V m N way num w T hV hm hN hway hnum hTw eVw eNw eww enw (lo + k) (by omega) (c % 14 ^ (lo + k - 1)) hck (rcF way num V N (fun n => T (n - 1)) (fun n => T (n + 3)) c lo k) hpk) 2 rfl rfl (gdV wm_308 wm_309 wm_310 wm_19 wm_311) (by decide +kernel) ⟨(Nat.le_of_ble_eq_true rfl), (Nat.le_of_ble_eq_true rfl)⟩ ⟨(Nat.le_of_ble_eq_true rfl), (Nat.le_of_ble_eq_true rfl)⟩ (fun _ _ _ => ⟨rfl, rfl⟩) (Nat.le_of_ble_eq_true rfl) dX1_reckon_48 (fun v2 u2 hp2 => ?_)
          obtain ⟨rfl, hF2, hch2⟩ := hp2
          simp only [Option.toList_none, List.nil_append]
          refine w_iinc h (pc := 51) dX1_reckon_51 rfl (by decide) ?_
          refine w_goto h (pc := 54) (tgt := 32) dX1_reckon_54 (by decide) ?_
          exact WW.sub (by rfl) (ih (k + 1) _ u2 (by omega) (by omega) (by omega) (hFw.tr hF2) hch2)
    first
    | exact WW.sub (by rfl) (lp32 (M + 1) 0 (n : Int) u1 (by omega) (by omega) (by omega) hF1 hc1)
    | exact WW.sub (by rfl) (lp32 (M + 1) 0 (1 : Int) u1 (by omega) (by omega) (by omega) hF1 hc1)
  · refine w_iload_n h (pc := 26) dX1_reckon_26 rfl ?_
    refine w_goto h (pc := 27) (tgt := 31) dX1_reckon_27 (by decide) ?_
    refine w_istore_n h (pc := 31) dX1_reckon_31 (by decide) ?_
    have lp32 : ∀ (n9 k : Nat) (z : Int) (w : US), z = (lo : Int) + k → M < k + n9 → k ≤ M → Fr [8, 9] [9, 10] u w → (∀ x, x ≤ V → w.2 9 x = (rcF way num V N (fun n => T (n - 1)) (fun n => T (n + 3)) c lo k x : Int)) → WW Γ 4 w 32 [(0, .ref (a 2)), (1, .int (iI (n : Int))), (2, .int (iI (c : Int))), (3, .int (iI z))] [] := by
      intro n9
      induction n9 with
      | zero => intro k z w hz hn9 hk hFw hch; exfalso; omega
      | succ n9 ih =>
        intro k z w hz hn9 hk hFw hch
        have eVw : w.1 4 = (V : Int) := (hFw.1 4 (by simp)).trans eV
        have eNw : w.1 5 = (N : Int) := (hFw.1 5 (by simp)).trans eN
        have eww : w.1 6 = (way : Int) := (hFw.1 6 (by simp)).trans ew
        have enw : w.1 7 = (num : Int) := (hFw.1 7 (by simp)).trans en
        have hTw : TA V m w T := hT.of hFw (by simp [tS]) (by simp [tG])
        refine w_iload_n h (pc := 32) dX1_reckon_32 rfl ?_
        refine w_iload_n h (pc := 33) dX1_reckon_33 rfl ?_
        refine w_icmp_gt h (pc := 34) (tgt := 57) dX1_reckon_34 (by decide) (by omega) (by omega) (fun c34 => ?_) (fun c34 => ?_)
        · have e : k = M := by omega
          have hfin : ∀ x, chs way num V N (fun n => T (n - 1)) (fun n => T (n + 3)) n c x = rcF way num V N (fun n => T (n - 1)) (fun n => T (n + 3)) c lo M x := by
            intro x
            unfold chs
            rcases hlo with ⟨q1, q2, q3⟩ | ⟨q1, q2, q3⟩
            · rw [if_pos q1, q2, q3]
            · rw [if_neg q1, q2, q3]
          exact w_vret h (pc := 57) rfl dX1_reckon_57 (Nat.le_of_ble_eq_true rfl) (Nat.le_of_ble_eq_true rfl) ⟨rfl, hFw, fun x hx => by rw [hch x hx, hfin, e]⟩
        · obtain rfl : z = ((lo + k : Nat) : Int) := by omega
          have hix : (((lo + k : Nat) : Int) - 1).toNat = lo + k - 1 := by omega
          have hpw := pw_p14 (n := lo + k - 1) (by omega)
          have hp14 := p14_cs (n := lo + k - 1) (by omega)
          have hck : c % 14 ^ (lo + k - 1) < 2744 := by
            have h1 : c % 14 ^ (lo + k - 1) < 14 ^ (lo + k - 1) := Nat.mod_lt _ (Nat.pow_pos (by omega))
            have h2 : 14 ^ (lo + k - 1) ≤ 14 ^ 3 := Nat.pow_le_pow_right (by omega) (by omega)
            omega
          have hpk : ∀ x, x ≤ V → w.2 9 x = (rcF way num V N (fun n => T (n - 1)) (fun n => T (n + 3)) c lo k x : Int) ∧ rcF way num V N (fun n => T (n - 1)) (fun n => T (n + 3)) c lo k x ≤ 1000000 := fun x hx => ⟨hch x hx, (rcF_Ch hnum k).each x (by omega)⟩
          refine w_aload_n h (pc := 37) dX1_reckon_37 rfl ?_
          refine w_iload_n h (pc := 38) dX1_reckon_38 rfl ?_
          refine w_iload_n h (pc := 39) dX1_reckon_39 rfl ?_
          refine w_powsN h (pc := 40) (fun _ z => z.1) dX1_reckon_40 ?_
          refine w_iload_n h (pc := 43) dX1_reckon_43 rfl ?_
          refine w_iconst h (pc := 44) dX1_reckon_44 ?_
          refine w_isub h (pc := 45) dX1_reckon_45 ?_
          refine w_pow h (pc := 46) (by omega) ((congrArg pw hix).trans hpw) dX1_reckon_46 ?_
          refine w_irem h (pc := 47) dX1_reckon_47 (by omega) (by omega) ?_
          refine w_callV2 h (pc := 48) (mX1_refine l D κ a ε V m N way num w T hV hm hN hway hnum hTw eVw eNw eww enw (lo + k) (by omega) (c % 14 ^ (lo + k - 1)) hck (rcF way num V N (fun n => T (n - 1)) (fun n => T (n + 3)) c lo k) hpk) 2 rfl rfl (gdV wm_308 wm_309 wm_310 wm_19 wm_311) (by decide +kernel) ⟨(Nat.le_of_ble_eq_true rfl), (Nat.le_of_ble_eq_true rfl)⟩ ⟨(Nat.le_of_ble_eq_true rfl), (Nat.le_of_ble_eq_true rfl)⟩ (fun _ _ _ => ⟨rfl, rfl⟩) (Nat.le_of_ble_eq_true rfl) dX1_reckon_48 (fun v2 u2 hp2 => ?_)
          obtain ⟨rfl, hF2, hch2⟩ := hp2
          simp only [Option.toList_none, List.nil_append]
          refine w_iinc h (pc := 51) dX1_reckon_51 rfl (by decide) ?_
          refine w_goto h (pc := 54) (tgt := 32) dX1_reckon_54 (by decide) ?_
          exact WW.sub (by rfl) (ih (k + 1) _ u2 (by omega) (by omega) (by omega) (hFw.tr hF2) hch2)
    first
    | exact WW.sub (by rfl) (lp32 (M + 1) 0 (n : Int) u1 (by omega) (by omega) (by omega) hF1 hc1)
    | exact WW.sub (by rfl) (lp32 (M + 1) 0 (1 : Int) u1 (by omega) (by omega) (by omega) hF1 hc1)

set_option maxHeartbeats 4000000 in
set_option maxRecDepth 100000 in
theorem mX1_isLikelier (l : Launch) (D : va_G) (κ a : Nat → Nat) (ε : Nat) (V : Nat) (u : US) (hV : V ≤ 12) (eV : u.1 4 = (V : Int)) (p : Nat → Nat) (hc : ∀ x, x ≤ V → u.2 9 x = (p x : Int) ∧ p x ≤ 1000000) (x y : Nat) (hx9 : x ≤ V) (hy9 : y ≤ V) : Ct (W0 κ a) l D κ ε yX1_isLikelier cX1_isLikelier 3 (some .boolean) 0 0 0 0 u [.ref (a 2), .int (iI (x : Int)), .int (iI (y : Int))] (fun v u' => v = some (.int (iI (if lk p x y then 1 else 0))) ∧ u' = u) := by
  have h1 := hc x hx9
  have h2 := hc y hy9
  refine Ct.of (own := RX1) rfl (by decide +kernel) (Nat.le_of_ble_eq_true rfl) rfl (fun Γ h => ?_)
  refine w_aload_n h (pc := 0) dX1_isLikelier_0 rfl ?_
  refine g2_chances h (pc := 1) wm_60 dX1_isLikelier_1 ?_
  refine w_iload_n h (pc := 4) dX1_isLikelier_4 rfl ?_
  refine ld_chances h (pc := 5) (by omega) h1.1 dX1_isLikelier_5 ?_
  refine w_aload_n h (pc := 6) dX1_isLikelier_6 rfl ?_
  refine g2_chances h (pc := 7) wm_60 dX1_isLikelier_7 ?_
  refine w_iload_n h (pc := 10) dX1_isLikelier_10 rfl ?_
  refine ld_chances h (pc := 11) (by omega) h2.1 dX1_isLikelier_11 ?_
  refine w_icmp_eq h (pc := 12) (tgt := 36) dX1_isLikelier_12 (by decide) (by omega) (by omega) (fun c12 => ?_) (fun c12 => ?_)
  · refine w_iload_n h (pc := 36) dX1_isLikelier_36 rfl ?_
    refine w_iload_n h (pc := 37) dX1_isLikelier_37 rfl ?_
    refine w_icmp_ge h (pc := 38) (tgt := 45) dX1_isLikelier_38 (by decide) (by omega) (by omega) (fun c38 => ?_) (fun c38 => ?_)
    · have hlk : ¬ lk p x y := by rintro (q | q) <;> omega
      refine w_iconst h (pc := 45) dX1_isLikelier_45 ?_
      exact w_iret h (pc := 46) (ty := .boolean) rfl rfl dX1_isLikelier_46 (Nat.le_of_ble_eq_true rfl) (Nat.le_of_ble_eq_true rfl) ⟨by first | rw [if_pos hlk] | rw [if_neg hlk], rfl⟩
    · have hlk : lk p x y := Or.inr ⟨by omega, by omega⟩
      refine w_iconst h (pc := 41) dX1_isLikelier_41 ?_
      refine w_goto h (pc := 42) (tgt := 46) dX1_isLikelier_42 (by decide) ?_
      exact w_iret h (pc := 46) (ty := .boolean) rfl rfl dX1_isLikelier_46 (Nat.le_of_ble_eq_true rfl) (Nat.le_of_ble_eq_true rfl) ⟨by first | rw [if_pos hlk] | rw [if_neg hlk], rfl⟩
  · refine w_aload_n h (pc := 15) dX1_isLikelier_15 rfl ?_
    refine g2_chances h (pc := 16) wm_60 dX1_isLikelier_16 ?_
    refine w_iload_n h (pc := 19) dX1_isLikelier_19 rfl ?_
    refine ld_chances h (pc := 20) (by omega) h1.1 dX1_isLikelier_20 ?_
    refine w_aload_n h (pc := 21) dX1_isLikelier_21 rfl ?_
    refine g2_chances h (pc := 22) wm_60 dX1_isLikelier_22 ?_
    refine w_iload_n h (pc := 25) dX1_isLikelier_25 rfl ?_
    refine ld_chances h (pc := 26) (by omega) h2.1 dX1_isLikelier_26 ?_
    refine w_icmp_le h (pc := 27) (tgt := 34) dX1_isLikelier_27 (by decide) (by omega) (by omega) (fun c27 => ?_) (fun c27 => ?_)
    · have hlk : ¬ lk p x y := by rintro (q | q) <;> omega
      refine w_iconst h (pc := 34) dX1_isLikelier_34 ?_
      exact w_iret h (pc := 35) (ty := .boolean) rfl rfl dX1_isLikelier_35 (Nat.le_of_ble_eq_true rfl) (Nat.le_of_ble_eq_true rfl) ⟨by first | rw [if_pos hlk] | rw [if_neg hlk], rfl⟩
    · have hlk : lk p x y := Or.inl (by omega)
      refine w_iconst h (pc := 30) dX1_isLikelier_30 ?_
      refine w_goto h (pc := 31) (tgt := 35) dX1_isLikelier_31 (by decide) ?_
      exact w_iret h (pc := 35) (ty := .boolean) rfl rfl dX1_isLikelier_35 (Nat.le_of_ble_eq_true rfl) (Nat.le_of_ble_eq_true rfl) ⟨by first | rw [if_pos hlk] | rw [if_neg hlk], rfl⟩

set_option maxHeartbeats 4000000 in
set_option maxRecDepth 100000 in
theorem mX1_rankOf (l : Launch) (D : va_G) (κ a : Nat → Nat) (ε : Nat) (V : Nat) (u : US) (hV : V ≤ 12) (eV : u.1 4 = (V : Int)) (p : Nat → Nat) (hc : ∀ x, x ≤ V → u.2 9 x = (p x : Int) ∧ p x ≤ 1000000) (w : Nat) (hw : w ≤ V) : Ct (W0 κ a) l D κ ε yX1_rankOf cX1_rankOf 4 (some .int) 1 22 0 0 u [.ref (a 2), .int (iI (w : Int))] (fun v u' => v = some (.int (iI (rk p (V + 1) w : Int))) ∧ u' = u) := by
  refine Ct.of (own := RX1) rfl (by decide +kernel) (Nat.le_of_ble_eq_true rfl) rfl (fun Γ h => ?_)
  refine w_iconst h (pc := 0) dX1_rankOf_0 ?_
  refine w_istore_n h (pc := 1) dX1_rankOf_1 (by decide) ?_
  refine w_iconst h (pc := 2) dX1_rankOf_2 ?_
  refine w_istore_n h (pc := 3) dX1_rankOf_3 (by decide) ?_
  have lp4 : ∀ (n9 j : Nat) (s : Int), V + 1 < j + n9 → j ≤ V + 1 → s = (sm (fun o => if lk p o w then 1 else 0) j : Int) → WW Γ 4 u 4 [(0, .ref (a 2)), (1, .int (iI (w : Int))), (2, .int (iI s)), (3, .int (iI (j : Int)))] [] := by
    intro n9
    induction n9 with
    | zero => intro j s hn9 hj hs; exfalso; omega
    | succ n9 ih =>
      intro j s hn9 hj hs
      refine w_iload_n h (pc := 4) dX1_rankOf_4 rfl ?_
      refine w_aload_n h (pc := 5) dX1_rankOf_5 rfl ?_
      refine g2_ledger h (pc := 6) wm_64 dX1_rankOf_6 ?_
      refine g1_words h (pc := 9) eV wm_307 dX1_rankOf_9 ?_
      refine w_icmp_gt h (pc := 12) (tgt := 33) dX1_rankOf_12 (by decide) (by omega) (by omega) (fun c12 => ?_) (fun c12 => ?_)
      · have e : j = V + 1 := by omega
        refine w_iload_n h (pc := 33) dX1_rankOf_33 rfl ?_
        exact w_iret h (pc := 34) (ty := .int) rfl rfl dX1_rankOf_34 (Nat.le_of_ble_eq_true rfl) (Nat.le_of_ble_eq_true rfl) ⟨by rw [hs, e]; rfl, rfl⟩
      · refine w_aload_n h (pc := 15) dX1_rankOf_15 rfl ?_
        refine w_iload_n h (pc := 16) dX1_rankOf_16 rfl ?_
        refine w_iload_n h (pc := 17) dX1_rankOf_17 rfl ?_
        refine w_callV2 h (pc := 18) (mX1_isLikelier l D κ a ε V u hV eV p hc j w (by omega) hw) 2 rfl rfl (gdV wm_333 wm_334 wm_335 wm_19 wm_336) (by decide +kernel) ⟨(Nat.le_of_ble_eq_true rfl), (Nat.le_of_ble_eq_true rfl)⟩ ⟨(Nat.le_of_ble_eq_true rfl), (Nat.le_of_ble_eq_true rfl)⟩ (fun _ _ _ => ⟨rfl, rfl⟩) (Nat.le_of_ble_eq_true rfl) dX1_rankOf_18 (fun v1 u1 hp1 => ?_)
        obtain ⟨rfl, e1⟩ := hp1
        obtain rfl := e1.symm
        simp only [Option.toList_some, List.cons_append, List.nil_append]
        refine w_if_eq h (pc := 21) (tgt := 27) dX1_rankOf_21 (by decide) (by split <;> omega) (fun c21 => ?_) (fun c21 => ?_)
        · refine w_iinc h (pc := 27) dX1_rankOf_27 rfl (by decide) ?_
          refine w_goto h (pc := 30) (tgt := 4) dX1_rankOf_30 (by decide) ?_
          first
          | exact WW.sub (by rfl) (ih (j + 1) (s + 1) (by omega) (by omega) (by rw [sm_s, if_pos (Classical.byContradiction fun q => by rw [if_neg q] at c21; omega)]; omega))
          | exact WW.sub (by rfl) (ih (j + 1) s (by omega) (by omega) (by rw [sm_s, if_neg (fun q => by rw [if_pos q] at c21; omega)]; omega))
        · refine w_iinc h (pc := 24) dX1_rankOf_24 rfl (by decide) ?_
          refine w_iinc h (pc := 27) dX1_rankOf_27 rfl (by decide) ?_
          refine w_goto h (pc := 30) (tgt := 4) dX1_rankOf_30 (by decide) ?_
          first
          | exact WW.sub (by rfl) (ih (j + 1) (s + 1) (by omega) (by omega) (by rw [sm_s, if_pos (Classical.byContradiction fun q => by rw [if_neg q] at c21; omega)]; omega))
          | exact WW.sub (by rfl) (ih (j + 1) s (by omega) (by omega) (by rw [sm_s, if_neg (fun q => by rw [if_pos q] at c21; omega)]; omega))
  exact WW.sub (by rfl) (lp4 (V + 2) 0 0 (by omega) (by omega) rfl)

set_option maxHeartbeats 4000000 in
set_option maxRecDepth 100000 in
theorem mX1_withRank (l : Launch) (D : va_G) (κ a : Nat → Nat) (ε : Nat) (V : Nat) (u : US) (hV : V ≤ 12) (eV : u.1 4 = (V : Int)) (p : Nat → Nat) (hc : ∀ x, x ≤ V → u.2 9 x = (p x : Int) ∧ p x ≤ 1000000) (r : Nat) (hr : r ≤ V) : Ct (W0 κ a) l D κ ε yX1_withRank cX1_withRank 3 (some .int) 2 45 0 0 u [.ref (a 2), .int (iI (r : Int))] (fun v u' => v = some (.int (iI (fw p V r : Int))) ∧ u' = u) := by
  refine Ct.of (own := RX1) rfl (by decide +kernel) (Nat.le_of_ble_eq_true rfl) rfl (fun Γ h => ?_)
  refine w_iconst h (pc := 0) dX1_withRank_0 ?_
  refine w_istore_n h (pc := 1) dX1_withRank_1 (by decide) ?_
  have lp2 : ∀ (n9 j : Nat), V < j + n9 → j ≤ V → (∀ x, x < j → ¬ rk p (V + 1) x = r) → WW Γ 3 u 2 [(0, .ref (a 2)), (1, .int (iI (r : Int))), (2, .int (iI (j : Int)))] [] := by
    intro n9
    induction n9 with
    | zero => intro j hn9 hj hno; exfalso; omega
    | succ n9 ih =>
      intro j hn9 hj hno
      refine w_iload_n h (pc := 2) dX1_withRank_2 rfl ?_
      refine w_aload_n h (pc := 3) dX1_withRank_3 rfl ?_
      refine g2_ledger h (pc := 4) wm_64 dX1_withRank_4 ?_
      refine g1_words h (pc := 7) eV wm_307 dX1_withRank_7 ?_
      refine w_icmp_ge h (pc := 10) (tgt := 30) dX1_withRank_10 (by decide) (by omega) (by omega) (fun c10 => ?_) (fun c10 => ?_)
      · have e : j = V := by omega
        have hfw : fw p V r = V := fst9_no (fun x hx => hno x (by omega))
        refine w_aload_n h (pc := 30) dX1_withRank_30 rfl ?_
        refine g2_ledger h (pc := 31) wm_64 dX1_withRank_31 ?_
        refine g1_words h (pc := 34) eV wm_307 dX1_withRank_34 ?_
        exact w_iret h (pc := 37) (ty := .int) rfl rfl dX1_withRank_37 (Nat.le_of_ble_eq_true rfl) (Nat.le_of_ble_eq_true rfl) ⟨by rw [hfw], rfl⟩
      · refine w_aload_n h (pc := 13) dX1_withRank_13 rfl ?_
        refine w_iload_n h (pc := 14) dX1_withRank_14 rfl ?_
        refine w_callV1 h (pc := 15) (mX1_rankOf l D κ a ε V u hV eV p hc j (by omega)) 2 rfl rfl (gdV wm_329 wm_330 wm_331 wm_19 wm_332) (by decide +kernel) ⟨(Nat.le_of_ble_eq_true rfl), (Nat.le_of_ble_eq_true rfl)⟩ ⟨(Nat.le_of_ble_eq_true rfl), (Nat.le_of_ble_eq_true rfl)⟩ (fun _ _ _ => ⟨rfl, rfl⟩) (Nat.le_of_ble_eq_true rfl) dX1_withRank_15 (fun v1 u1 hp1 => ?_)
        obtain ⟨rfl, e1⟩ := hp1
        obtain rfl := e1.symm
        have hrk := rk_in (c := p) (n := V + 1) (w := j) (by omega)
        simp only [Option.toList_some, List.cons_append, List.nil_append]
        refine w_iload_n h (pc := 18) dX1_withRank_18 rfl ?_
        refine w_icmp_ne h (pc := 19) (tgt := 24) dX1_withRank_19 (by decide) (by omega) (by omega) (fun c19 => ?_) (fun c19 => ?_)
        · refine w_iinc h (pc := 24) dX1_withRank_24 rfl (by decide) ?_
          refine w_goto h (pc := 27) (tgt := 2) dX1_withRank_27 (by decide) ?_
          exact WW.sub (by rfl) (ih (j + 1) (by omega) (by omega) (fun x hx q => by rcases Nat.lt_or_ge x j with z | z; exact hno x z q; obtain rfl : x = j := (by omega); omega))
        · have hfw : fw p V r = j := fst9_at (by omega) (by omega) hno
          refine w_iload_n h (pc := 22) dX1_withRank_22 rfl ?_
          exact w_iret h (pc := 23) (ty := .int) rfl rfl dX1_withRank_23 (Nat.le_of_ble_eq_true rfl) (Nat.le_of_ble_eq_true rfl) ⟨by rw [hfw], rfl⟩
  exact WW.sub (by rfl) (lp2 (V + 1) 0 (by omega) (by omega) (fun x hx => absurd hx (Nat.not_lt_zero x)))

set_option maxHeartbeats 4000000 in
set_option maxRecDepth 100000 in
theorem mX1_likeliest (l : Launch) (D : va_G) (κ a : Nat → Nat) (ε : Nat) (V : Nat) (u : US) (hV : V ≤ 12) (eV : u.1 4 = (V : Int)) (p : Nat → Nat) (hc : ∀ x, x ≤ V → u.2 9 x = (p x : Int) ∧ p x ≤ 1000000) (w0 : Nat) (hw0 : w0 ≤ V) (hr0 : rk p (V + 1) w0 = 0) : Ct (W0 κ a) l D κ ε yX1_likeliest cX1_likeliest 4 (some .int) 2 45 0 0 u [.ref (a 2), .int (iI 1)] (fun v u' => v = some (.int (iI ((2 ^ w0 : Nat) : Int))) ∧ u' = u) := by
  refine Ct.of (own := RX1) rfl (by decide +kernel) (Nat.le_of_ble_eq_true rfl) rfl (fun Γ h => ?_)
  refine w_iconst h (pc := 0) dX1_likeliest_0 ?_
  refine w_istore_n h (pc := 1) dX1_likeliest_1 (by decide) ?_
  refine w_iconst h (pc := 2) dX1_likeliest_2 ?_
  refine w_istore_n h (pc := 3) dX1_likeliest_3 (by decide) ?_
  have lp4 : ∀ (n9 j : Nat) (s : Int), V + 1 < j + n9 → j ≤ V + 1 → s = (if w0 < j then ((2 ^ w0 : Nat) : Int) else 0) → WW Γ 4 u 4 [(0, .ref (a 2)), (1, .int (iI 1)), (2, .int (iI s)), (3, .int (iI (j : Int)))] [] := by
    intro n9
    induction n9 with
    | zero => intro j s hn9 hj hs; exfalso; omega
    | succ n9 ih =>
      intro j s hn9 hj hs
      refine w_iload_n h (pc := 4) dX1_likeliest_4 rfl ?_
      refine w_aload_n h (pc := 5) dX1_likeliest_5 rfl ?_
      refine g2_ledger h (pc := 6) wm_64 dX1_likeliest_6 ?_
      refine g1_words h (pc := 9) eV wm_307 dX1_likeliest_9 ?_
      refine w_icmp_gt h (pc := 12) (tgt := 36) dX1_likeliest_12 (by decide) (by omega) (by omega) (fun c12 => ?_) (fun c12 => ?_)
      · have e : w0 < j := by omega
        rw [if_pos e] at hs
        refine w_iload_n h (pc := 36) dX1_likeliest_36 rfl ?_
        exact w_iret h (pc := 37) (ty := .int) rfl rfl dX1_likeliest_37 (Nat.le_of_ble_eq_true rfl) (Nat.le_of_ble_eq_true rfl) ⟨by rw [hs], rfl⟩
      · refine w_aload_n h (pc := 15) dX1_likeliest_15 rfl ?_
        refine w_iload_n h (pc := 16) dX1_likeliest_16 rfl ?_
        refine w_callV1 h (pc := 17) (mX1_rankOf l D κ a ε V u hV eV p hc j (by omega)) 2 rfl rfl (gdV wm_329 wm_330 wm_331 wm_19 wm_332) (by decide +kernel) ⟨(Nat.le_of_ble_eq_true rfl), (Nat.le_of_ble_eq_true rfl)⟩ ⟨(Nat.le_of_ble_eq_true rfl), (Nat.le_of_ble_eq_true rfl)⟩ (fun _ _ _ => ⟨rfl, rfl⟩) (Nat.le_of_ble_eq_true rfl) dX1_likeliest_17 (fun v1 u1 hp1 => ?_)
        obtain ⟨rfl, e1⟩ := hp1
        obtain rfl := e1.symm
        have hrk := rk_in (c := p) (n := V + 1) (w := j) (by omega)
        simp only [Option.toList_some, List.cons_append, List.nil_append]
        refine w_iload_n h (pc := 20) dX1_likeliest_20 rfl ?_
        refine w_icmp_ge h (pc := 21) (tgt := 30) dX1_likeliest_21 (by decide) (by omega) (by omega) (fun c21 => ?_) (fun c21 => ?_)
        · have hup : j ≠ w0 → (if w0 < j then ((2 ^ w0 : Nat) : Int) else 0) = (if w0 < j + 1 then ((2 ^ w0 : Nat) : Int) else 0) := fun q => by
            by_cases z : w0 < j
            · rw [if_pos z, if_pos (by omega)]
            · rw [if_neg z, if_neg (by omega)]
          refine w_iinc h (pc := 30) dX1_likeliest_30 rfl (by decide) ?_
          refine w_goto h (pc := 33) (tgt := 4) dX1_likeliest_33 (by decide) ?_
          first
          | exact WW.sub (by rfl) (ih (j + 1) ((2 ^ j : Nat) : Int) (by omega) (by omega) (by rw [if_pos (by omega), ej]))
          | exact WW.sub (by rfl) (ih (j + 1) s (by omega) (by omega) (by rw [hs]; exact hup (fun q => by subst q; omega)))
        · have ej : j = w0 := rk_inj (c := p) (n := V + 1) (by omega) (by omega) (by omega)
          rw [if_neg (by omega)] at hs
          subst hs
          refine w_iload_n h (pc := 24) dX1_likeliest_24 rfl ?_
          refine w_iconst h (pc := 25) dX1_likeliest_25 ?_
          refine w_iload_n h (pc := 26) dX1_likeliest_26 rfl ?_
          refine w_ishl h (pc := 27) (z := ((2 ^ j : Nat) : Int)) dX1_likeliest_27 (shl_1 (by omega)) ?_
          refine w_ior h (pc := 28) (z := ((2 ^ j : Nat) : Int)) dX1_likeliest_28 (or_0 _) ?_
          refine w_istore_n h (pc := 29) dX1_likeliest_29 (by decide) ?_
          have hup : j ≠ w0 → (if w0 < j then ((2 ^ w0 : Nat) : Int) else 0) = (if w0 < j + 1 then ((2 ^ w0 : Nat) : Int) else 0) := fun q => by
            by_cases z : w0 < j
            · rw [if_pos z, if_pos (by omega)]
            · rw [if_neg z, if_neg (by omega)]
          refine w_iinc h (pc := 30) dX1_likeliest_30 rfl (by decide) ?_
          refine w_goto h (pc := 33) (tgt := 4) dX1_likeliest_33 (by decide) ?_
          first
          | exact WW.sub (by rfl) (ih (j + 1) ((2 ^ j : Nat) : Int) (by omega) (by omega) (by rw [if_pos (by omega), ej]))
          | exact WW.sub (by rfl) (ih (j + 1) s (by omega) (by omega) (by rw [hs]; exact hup (fun q => by subst q; omega)))
  exact WW.sub (by rfl) (lp4 (V + 2) 0 0 (by omega) (by omega) (if_neg (Nat.not_lt_zero w0)).symm)
end
section
theorem dX1_pick_0 : decode cX1_pick 0 = .ok (.lconst 0, 1) := by decide +kernel
theorem dX1_pick_1 : decode cX1_pick 1 = .ok (.lstore_n 3, 1) := by decide +kernel
theorem dX1_pick_2 : decode cX1_pick 2 = .ok (.aload_n 0, 1) := by decide +kernel
theorem dX1_pick_3 : decode cX1_pick 3 = .ok (.getfield 32, 3) := by decide +kernel
theorem dX1_pick_6 : decode cX1_pick 6 = .ok (.getfield 37, 3) := by decide +kernel
theorem dX1_pick_9 : decode cX1_pick 9 = .ok (.istore 5, 2) := by decide +kernel
theorem dX1_pick_11 : decode cX1_pick 11 = .ok (.iload 5, 2) := by decide +kernel
theorem dX1_pick_13 : decode cX1_pick 13 = .ok (.ifCond .lt 27, 3) := by decide +kernel
theorem dX1_pick_16 : decode cX1_pick 16 = .ok (.lload_n 3, 1) := by decide +kernel
theorem dX1_pick_17 : decode cX1_pick 17 = .ok (.iload_n 2, 1) := by decide +kernel
theorem dX1_pick_18 : decode cX1_pick 18 = .ok (.iload 5, 2) := by decide +kernel
theorem dX1_pick_20 : decode cX1_pick 20 = .ok (.ishr, 1) := by decide +kernel
theorem dX1_pick_21 : decode cX1_pick 21 = .ok (.iconst 1, 1) := by decide +kernel
theorem dX1_pick_22 : decode cX1_pick 22 = .ok (.iand, 1) := by decide +kernel
theorem dX1_pick_23 : decode cX1_pick 23 = .ok (.aload_n 0, 1) := by decide +kernel
theorem dX1_pick_24 : decode cX1_pick 24 = .ok (.getfield 18, 3) := by decide +kernel
theorem dX1_pick_27 : decode cX1_pick 27 = .ok (.iload 5, 2) := by decide +kernel
theorem dX1_pick_29 : decode cX1_pick 29 = .ok (.iaload, 1) := by decide +kernel
theorem dX1_pick_30 : decode cX1_pick 30 = .ok (.imul, 1) := by decide +kernel
theorem dX1_pick_31 : decode cX1_pick 31 = .ok (.i2l, 1) := by decide +kernel
theorem dX1_pick_32 : decode cX1_pick 32 = .ok (.ladd, 1) := by decide +kernel
theorem dX1_pick_33 : decode cX1_pick 33 = .ok (.lstore_n 3, 1) := by decide +kernel
theorem dX1_pick_34 : decode cX1_pick 34 = .ok (.iinc 5 (-1), 3) := by decide +kernel
theorem dX1_pick_37 : decode cX1_pick 37 = .ok (.goto (-26), 3) := by decide +kernel
theorem dX1_pick_40 : decode cX1_pick 40 = .ok (.iload_n 1, 1) := by decide +kernel
theorem dX1_pick_41 : decode cX1_pick 41 = .ok (.i2l, 1) := by decide +kernel
theorem dX1_pick_42 : decode cX1_pick 42 = .ok (.lload_n 3, 1) := by decide +kernel
theorem dX1_pick_43 : decode cX1_pick 43 = .ok (.lmul, 1) := by decide +kernel
theorem dX1_pick_44 : decode cX1_pick 44 = .ok (.ldc2_w 104, 3) := by decide +kernel
theorem dX1_pick_47 : decode cX1_pick 47 = .ok (.ldiv, 1) := by decide +kernel
theorem dX1_pick_48 : decode cX1_pick 48 = .ok (.lstore 5, 2) := by decide +kernel
theorem dX1_pick_50 : decode cX1_pick 50 = .ok (.iconst (-1), 1) := by decide +kernel
theorem dX1_pick_51 : decode cX1_pick 51 = .ok (.istore 7, 2) := by decide +kernel
theorem dX1_pick_53 : decode cX1_pick 53 = .ok (.lconst 0, 1) := by decide +kernel
theorem dX1_pick_54 : decode cX1_pick 54 = .ok (.lstore 8, 2) := by decide +kernel
theorem dX1_pick_56 : decode cX1_pick 56 = .ok (.iconst 0, 1) := by decide +kernel
theorem dX1_pick_57 : decode cX1_pick 57 = .ok (.istore 10, 2) := by decide +kernel
theorem dX1_pick_59 : decode cX1_pick 59 = .ok (.iload 10, 2) := by decide +kernel
theorem dX1_pick_61 : decode cX1_pick 61 = .ok (.aload_n 0, 1) := by decide +kernel
theorem dX1_pick_62 : decode cX1_pick 62 = .ok (.getfield 32, 3) := by decide +kernel
theorem dX1_pick_65 : decode cX1_pick 65 = .ok (.getfield 37, 3) := by decide +kernel
theorem dX1_pick_68 : decode cX1_pick 68 = .ok (.if_icmp .gt 57, 3) := by decide +kernel
theorem dX1_pick_71 : decode cX1_pick 71 = .ok (.iload_n 2, 1) := by decide +kernel
theorem dX1_pick_72 : decode cX1_pick 72 = .ok (.iload 10, 2) := by decide +kernel
theorem dX1_pick_74 : decode cX1_pick 74 = .ok (.ishr, 1) := by decide +kernel
theorem dX1_pick_75 : decode cX1_pick 75 = .ok (.iconst 1, 1) := by decide +kernel
theorem dX1_pick_76 : decode cX1_pick 76 = .ok (.iand, 1) := by decide +kernel
theorem dX1_pick_77 : decode cX1_pick 77 = .ok (.iconst 1, 1) := by decide +kernel
theorem dX1_pick_78 : decode cX1_pick 78 = .ok (.if_icmp .ne 41, 3) := by decide +kernel
theorem dX1_pick_81 : decode cX1_pick 81 = .ok (.lload 8, 2) := by decide +kernel
theorem dX1_pick_83 : decode cX1_pick 83 = .ok (.aload_n 0, 1) := by decide +kernel
theorem dX1_pick_84 : decode cX1_pick 84 = .ok (.getfield 18, 3) := by decide +kernel
theorem dX1_pick_87 : decode cX1_pick 87 = .ok (.iload 10, 2) := by decide +kernel
theorem dX1_pick_89 : decode cX1_pick 89 = .ok (.iaload, 1) := by decide +kernel
theorem dX1_pick_90 : decode cX1_pick 90 = .ok (.i2l, 1) := by decide +kernel
theorem dX1_pick_91 : decode cX1_pick 91 = .ok (.ladd, 1) := by decide +kernel
theorem dX1_pick_92 : decode cX1_pick 92 = .ok (.lstore 8, 2) := by decide +kernel
theorem dX1_pick_94 : decode cX1_pick 94 = .ok (.lload 8, 2) := by decide +kernel
theorem dX1_pick_96 : decode cX1_pick 96 = .ok (.lload 5, 2) := by decide +kernel
theorem dX1_pick_98 : decode cX1_pick 98 = .ok (.lcmp, 1) := by decide +kernel
theorem dX1_pick_99 : decode cX1_pick 99 = .ok (.ifCond .le 6, 3) := by decide +kernel
theorem dX1_pick_102 : decode cX1_pick 102 = .ok (.iload 10, 2) := by decide +kernel
theorem dX1_pick_104 : decode cX1_pick 104 = .ok (.ireturn, 1) := by decide +kernel
theorem dX1_pick_105 : decode cX1_pick 105 = .ok (.iload 7, 2) := by decide +kernel
theorem dX1_pick_107 : decode cX1_pick 107 = .ok (.ifCond .ge 8, 3) := by decide +kernel
theorem dX1_pick_110 : decode cX1_pick 110 = .ok (.iload 10, 2) := by decide +kernel
theorem dX1_pick_112 : decode cX1_pick 112 = .ok (.goto 5, 3) := by decide +kernel
theorem dX1_pick_115 : decode cX1_pick 115 = .ok (.iload 7, 2) := by decide +kernel
theorem dX1_pick_117 : decode cX1_pick 117 = .ok (.istore 7, 2) := by decide +kernel
theorem dX1_pick_119 : decode cX1_pick 119 = .ok (.iinc 10 1, 3) := by decide +kernel
theorem dX1_pick_122 : decode cX1_pick 122 = .ok (.goto (-63), 3) := by decide +kernel
theorem dX1_pick_125 : decode cX1_pick 125 = .ok (.iload 7, 2) := by decide +kernel
theorem dX1_pick_127 : decode cX1_pick 127 = .ok (.ifCond .ge 13, 3) := by decide +kernel
theorem dX1_pick_140 : decode cX1_pick 140 = .ok (.iload 7, 2) := by decide +kernel
theorem dX1_pick_142 : decode cX1_pick 142 = .ok (.ireturn, 1) := by decide +kernel
set_option maxHeartbeats 4000000 in
set_option maxRecDepth 100000 in
theorem mX1_pick (l : Launch) (D : va_G) (κ a : Nat → Nat) (ε : Nat) (V : Nat) (u : US) (hV : V ≤ 12) (eV : u.1 4 = (V : Int)) (p : Nat → Nat) (hc : ∀ x, x ≤ V → u.2 9 x = (p x : Int) ∧ p x ≤ 1000000) (lk9 : Nat) (hlk : lk9 < 10000) (o : Int) (b : Nat → Nat) (hb : ∀ w, w ≤ V → ((iI o >>> (iI (w : Int) &&& 31)) &&& iI 1 = iI (b w : Int)) ∧ b w ≤ 1) (hex : ∃ w, w ≤ V ∧ b w = 1) : Ct (W0 κ a) l D κ ε yX1_pick cX1_pick 11 (some .int) 0 0 0 0 u [.ref (a 2), .int (iI (lk9 : Int)), .int (iI o)] (fun v u' => u' = u ∧ ∃ r : Nat, v = some (.int (iI (r : Int))) ∧ r ≤ V ∧ b r = 1 ∧ (0 < sm (fun i => b i * p i) (V + 1) → 0 < p r)) := by
  have hterm : ∀ i, i ≤ V → b i * p i ≤ 1000000 := fun i hi => by
    have h1 := (hb i hi).2
    have h2 := (hc i hi).2
    have := Nat.mul_le_mul h1 h2
    omega
  have hsum : ∀ j, j ≤ V + 1 → sm (fun i => b i * p i) j ≤ 13000000 := fun j hj => by
    have := sm_bound (f := (fun i => b i * p i)) (B := 1000000) j (fun i hi => hterm i (by omega))
    omega
  refine Ct.of (own := RX1) rfl (by decide +kernel) (Nat.le_of_ble_eq_true rfl) rfl (fun Γ h => ?_)
  refine w_lconst h (pc := 0) (z := 0) dX1_pick_0 (by decide) ?_
  refine w_lstore_n h (pc := 1) dX1_pick_1 (by decide) ?_
  refine w_aload_n h (pc := 2) dX1_pick_2 rfl ?_
  refine g2_ledger h (pc := 3) wm_64 dX1_pick_3 ?_
  refine g1_words h (pc := 6) eV wm_307 dX1_pick_6 ?_
  refine w_istore h (pc := 9) dX1_pick_9 (by decide) ?_
  have lp11 : ∀ (n9 j : Nat) (s z : Int), z + 1 = (j : Int) → j < n9 → j ≤ V + 1 → s + (sm (fun i => b i * p i) j : Int) = (sm (fun i => b i * p i) (V + 1) : Int) → WW Γ 11 u 11 [(0, .ref (a 2)), (1, .int (iI (lk9 : Int))), (2, .int (iI o)), (3, .long (lI s)), (5, .int (iI z))] [] := by
    intro n9
    induction n9 with
    | zero => intro j s z hz9 hn9 hj hs; exfalso; omega
    | succ n9 ih =>
      intro j s z hz9 hn9 hj hs
      refine w_iload h (pc := 11) dX1_pick_11 rfl ?_
      refine w_if_lt h (pc := 13) (tgt := 40) dX1_pick_13 (by decide) (by omega) (fun c13 => ?_) (fun c13 => ?_)
      · have ej : j = 0 := by omega
        subst ej
        have hs2 : s = (sm (fun i => b i * p i) (V + 1) : Int) := by have : sm (fun i => b i * p i) 0 = 0 := rfl; omega
        subst hs2
        obtain ⟨all, hall⟩ : ∃ all, all = sm (fun i => b i * p i) (V + 1) := ⟨_, rfl⟩
        rw [← hall]
        have hall2 : all ≤ 13000000 := by rw [hall]; exact hsum _ (Nat.le_refl _)
        refine w_iload_n h (pc := 40) dX1_pick_40 rfl ?_
        refine w_i2l h (pc := 41) dX1_pick_41 (by omega) ?_
        refine w_lload_n h (pc := 42) dX1_pick_42 rfl ?_
        refine w_lmul h (pc := 43) dX1_pick_43 ?_
        refine w_ldc2 h (pc := 44) (z := 10000) dX1_pick_44 wm_369 (by decide) ?_
        obtain ⟨g, hg⟩ : ∃ g : Nat, g = lk9 * all := ⟨_, rfl⟩
        have hgm : g ≤ 10000 * 13000000 := by rw [hg]; exact Nat.mul_le_mul (by omega) hall2
        rw [show ((lk9 : Int) * (all : Int)) = (g : Int) by rw [hg]; rfl]
        refine w_ldiv h (pc := 47) dX1_pick_47 (by omega) (by omega) ?_
        obtain ⟨dr, hdr⟩ : ∃ dr : Nat, dr = g / 10000 := ⟨_, rfl⟩
        rw [show ((g : Int) / 10000) = (dr : Int) by rw [hdr]; rfl]
        have hdl : 0 < all → dr < all := fun h9 => by rw [hdr, hg]; exact drawn_lt hlk h9
        refine w_lstore h (pc := 48) dX1_pick_48 (by decide) ?_
        refine w_iconst h (pc := 50) dX1_pick_50 ?_
        refine w_istore h (pc := 51) dX1_pick_51 (by decide) ?_
        refine w_lconst h (pc := 53) (z := 0) dX1_pick_53 (by decide) ?_
        refine w_lstore h (pc := 54) dX1_pick_54 (by decide) ?_
        refine w_iconst h (pc := 56) dX1_pick_56 ?_
        refine w_istore h (pc := 57) dX1_pick_57 (by decide) ?_
        have lp59 : ∀ (n9 j : Nat) (s f : Int), V + 1 < j + n9 → j ≤ V + 1 → s = (sm (fun i => b i * p i) j : Int) → (s ≤ (dr : Int)) → (f = -1 ∧ (∀ i, i < j → b i ≠ 1) ∨ ∃ f9 : Nat, f = (f9 : Int) ∧ f9 < j ∧ b f9 = 1) → WW Γ 11 u 59 [(0, .ref (a 2)), (1, .int (iI (lk9 : Int))), (2, .int (iI o)), (5, .long (lI (dr : Int))), (7, .int (iI f)), (8, .long (lI s)), (10, .int (iI (j : Int)))] [] := by
          intro n9
          induction n9 with
          | zero => intro j s f hn9 hj hs hsd hf; exfalso; omega
          | succ n9 ih =>
            intro j s f hn9 hj hs hsd hf
            refine w_iload h (pc := 59) dX1_pick_59 rfl ?_
            refine w_aload_n h (pc := 61) dX1_pick_61 rfl ?_
            refine g2_ledger h (pc := 62) wm_64 dX1_pick_62 ?_
            refine g1_words h (pc := 65) eV wm_307 dX1_pick_65 ?_
            refine w_icmp_gt h (pc := 68) (tgt := 125) dX1_pick_68 (by decide) (by omega) (by omega) (fun c68 => ?_) (fun c68 => ?_)
            · have ej : j = V + 1 := by omega
              have hz : ¬ 0 < all := fun q => by have := hdl q; rw [ej, ← hall] at hs; omega
              obtain ⟨w9, hw9, hb9⟩ := hex
              have hf2 : ∃ f9 : Nat, f = (f9 : Int) ∧ f9 < j ∧ b f9 = 1 := by
                rcases hf with ⟨-, q⟩ | q
                · exact absurd hb9 (q w9 (by omega))
                · exact q
              obtain ⟨f9, rfl, hf9, hbf⟩ := hf2
              refine w_iload h (pc := 125) dX1_pick_125 rfl ?_
              refine w_if_ge h (pc := 127) (tgt := 140) dX1_pick_127 (by decide) (by omega) (fun c127 => ?_) (fun c127 => by exfalso; omega)
              refine w_iload h (pc := 140) dX1_pick_140 rfl ?_
              exact w_iret h (pc := 142) (ty := .int) rfl rfl dX1_pick_142 (Nat.le_of_ble_eq_true rfl) (Nat.le_of_ble_eq_true rfl) ⟨rfl, f9, rfl, by omega, hbf, fun q => absurd (by rw [hall]; exact q) hz⟩
            · have hfr : -1 ≤ f ∧ f < 100 := by rcases hf with ⟨q1, -⟩ | ⟨f9, q1, q2, -⟩ <;> omega
              have hcj := hc j (by omega)
              have hbj := hb j (by omega)
              obtain ⟨zs, hzs⟩ := shr_any (iI o) (iI (j : Int))
              have hsj := hsum j hj
              have hs1 : sm (fun i => b i * p i) (j + 1) = sm (fun i => b i * p i) j + b j * p j := sm_s _ _
              refine w_iload_n h (pc := 71) dX1_pick_71 rfl ?_
              refine w_iload h (pc := 72) dX1_pick_72 rfl ?_
              refine w_ishr h (pc := 74) (z := zs) dX1_pick_74 hzs ?_
              refine w_iconst h (pc := 75) dX1_pick_75 ?_
              refine w_iand h (pc := 76) (z := (b j : Int)) dX1_pick_76 (by rw [← hzs]; exact hbj.1) ?_
              refine w_iconst h (pc := 77) dX1_pick_77 ?_
              refine w_icmp_ne h (pc := 78) (tgt := 119) dX1_pick_78 (by decide) (by omega) (by omega) (fun c78 => ?_) (fun c78 => ?_)
              · refine w_iinc h (pc := 119) dX1_pick_119 rfl (by decide) ?_
                refine w_goto h (pc := 122) (tgt := 59) dX1_pick_122 (by decide) ?_
                first
                | exact WW.sub (by rfl) (ih (j + 1) s f (by omega) (by omega) (by rw [hs1, show b j = 0 by omega, Nat.zero_mul]; exact hs) hsd (by rcases hf with ⟨q1, q2⟩ | ⟨f9, q1, q2, q3⟩; exact Or.inl ⟨q1, fun i hi q => by rcases Nat.lt_or_ge i j with z | z; exact q2 i z q; obtain rfl : i = j := (by omega); omega⟩; exact Or.inr ⟨f9, q1, by omega, q3⟩))
                | exact WW.sub (by rfl) (ih (j + 1) _ (j : Int) (by omega) (by omega) (by rw [hs2]; omega) (by omega) (Or.inr ⟨j, rfl, by omega, hb1⟩))
                | exact WW.sub (by rfl) (ih (j + 1) _ f (by omega) (by omega) (by rw [hs2]; omega) (by omega) (by rcases hf with ⟨q1, q2⟩ | ⟨f9, q1, q2, q3⟩; exfalso; omega; exact Or.inr ⟨f9, q1, by omega, q3⟩))
              · have hb1 : b j = 1 := by omega
                have hs2 : sm (fun i => b i * p i) (j + 1) = sm (fun i => b i * p i) j + p j := by rw [hs1, hb1, Nat.one_mul]
                refine w_lload h (pc := 81) dX1_pick_81 rfl ?_
                refine w_aload_n h (pc := 83) dX1_pick_83 rfl ?_
                refine g2_chances h (pc := 84) wm_60 dX1_pick_84 ?_
                refine w_iload h (pc := 87) dX1_pick_87 rfl ?_
                refine ld_chances h (pc := 89) (by omega) hcj.1 dX1_pick_89 ?_
                refine w_i2l h (pc := 90) dX1_pick_90 (by omega) ?_
                refine w_ladd h (pc := 91) dX1_pick_91 ?_
                refine w_lstore h (pc := 92) dX1_pick_92 (by decide) ?_
                refine w_lload h (pc := 94) dX1_pick_94 rfl ?_
                refine w_lload h (pc := 96) dX1_pick_96 rfl ?_
                refine w_lcmp h (pc := 98) dX1_pick_98 ?_
                refine w_lif_le h (pc := 99) (tgt := 105) dX1_pick_99 (by decide) (by omega) (by omega) (fun c99 => ?_) (fun c99 => ?_)
                · refine w_iload h (pc := 105) dX1_pick_105 rfl ?_
                  refine w_if_ge h (pc := 107) (tgt := 115) dX1_pick_107 (by decide) (by clear hf hex; omega) (fun c107 => ?_) (fun c107 => ?_)
                  · refine w_iload h (pc := 115) dX1_pick_115 rfl ?_
                    refine w_istore h (pc := 117) dX1_pick_117 (by decide) ?_
                    refine w_iinc h (pc := 119) dX1_pick_119 rfl (by decide) ?_
                    refine w_goto h (pc := 122) (tgt := 59) dX1_pick_122 (by decide) ?_
                    first
                    | exact WW.sub (by rfl) (ih (j + 1) s f (by omega) (by omega) (by rw [hs1, show b j = 0 by omega, Nat.zero_mul]; exact hs) hsd (by rcases hf with ⟨q1, q2⟩ | ⟨f9, q1, q2, q3⟩; exact Or.inl ⟨q1, fun i hi q => by rcases Nat.lt_or_ge i j with z | z; exact q2 i z q; obtain rfl : i = j := (by omega); omega⟩; exact Or.inr ⟨f9, q1, by omega, q3⟩))
                    | exact WW.sub (by rfl) (ih (j + 1) _ (j : Int) (by omega) (by omega) (by rw [hs2]; omega) (by omega) (Or.inr ⟨j, rfl, by omega, hb1⟩))
                    | exact WW.sub (by rfl) (ih (j + 1) _ f (by omega) (by omega) (by rw [hs2]; omega) (by omega) (by rcases hf with ⟨q1, q2⟩ | ⟨f9, q1, q2, q3⟩; exfalso; omega; exact Or.inr ⟨f9, q1, by omega, q3⟩))
                  · refine w_iload h (pc := 110) dX1_pick_110 rfl ?_
                    refine w_goto h (pc := 112) (tgt := 117) dX1_pick_112 (by decide) ?_
                    refine w_istore h (pc := 117) dX1_pick_117 (by decide) ?_
                    refine w_iinc h (pc := 119) dX1_pick_119 rfl (by decide) ?_
                    refine w_goto h (pc := 122) (tgt := 59) dX1_pick_122 (by decide) ?_
                    first
                    | exact WW.sub (by rfl) (ih (j + 1) s f (by omega) (by omega) (by rw [hs1, show b j = 0 by omega, Nat.zero_mul]; exact hs) hsd (by rcases hf with ⟨q1, q2⟩ | ⟨f9, q1, q2, q3⟩; exact Or.inl ⟨q1, fun i hi q => by rcases Nat.lt_or_ge i j with z | z; exact q2 i z q; obtain rfl : i = j := (by omega); omega⟩; exact Or.inr ⟨f9, q1, by omega, q3⟩))
                    | exact WW.sub (by rfl) (ih (j + 1) _ (j : Int) (by omega) (by omega) (by rw [hs2]; omega) (by omega) (Or.inr ⟨j, rfl, by omega, hb1⟩))
                    | exact WW.sub (by rfl) (ih (j + 1) _ f (by omega) (by omega) (by rw [hs2]; omega) (by omega) (by rcases hf with ⟨q1, q2⟩ | ⟨f9, q1, q2, q3⟩; exfalso; omega; exact Or.inr ⟨f9, q1, by omega, q3⟩))
                · have hpj : 0 < p j := by omega
                  refine w_iload h (pc := 102) dX1_pick_102 rfl ?_
                  exact w_iret h (pc := 104) (ty := .int) rfl rfl dX1_pick_104 (Nat.le_of_ble_eq_true rfl) (Nat.le_of_ble_eq_true rfl) ⟨rfl, j, rfl, by omega, hb1, fun _ => hpj⟩
        exact WW.sub (by rfl) (lp59 (V + 2) 0 0 (-1) (by omega) (by omega) rfl (by omega) (Or.inl ⟨rfl, fun i hi => absurd hi (Nat.not_lt_zero i)⟩))
      · obtain ⟨y, hy⟩ : ∃ y : Nat, y + 1 = j := ⟨j - 1, by omega⟩
        obtain rfl : z = (y : Int) := by omega
        have hcy := hc y (by omega)
        have hby := hb y (by omega)
        have hty := hterm y (by omega)
        obtain ⟨zs, hzs⟩ := shr_any (iI o) (iI (y : Int))
        have hsp : sm (fun i => b i * p i) j = sm (fun i => b i * p i) y + b y * p y := by rw [← hy, sm_s]
        have hsj := hsum j hj
        have hsV := hsum (V + 1) (Nat.le_refl _)
        refine w_lload_n h (pc := 16) dX1_pick_16 rfl ?_
        refine w_iload_n h (pc := 17) dX1_pick_17 rfl ?_
        refine w_iload h (pc := 18) dX1_pick_18 rfl ?_
        refine w_ishr h (pc := 20) (z := zs) dX1_pick_20 hzs ?_
        refine w_iconst h (pc := 21) dX1_pick_21 ?_
        refine w_iand h (pc := 22) (z := (b y : Int)) dX1_pick_22 (by rw [← hzs]; exact hby.1) ?_
        refine w_aload_n h (pc := 23) dX1_pick_23 rfl ?_
        refine g2_chances h (pc := 24) wm_60 dX1_pick_24 ?_
        refine w_iload h (pc := 27) dX1_pick_27 rfl ?_
        refine ld_chances h (pc := 29) (by omega) hcy.1 dX1_pick_29 ?_
        refine w_imul h (pc := 30) dX1_pick_30 ?_
        obtain ⟨g, hg⟩ : ∃ g : Nat, g = b y * p y := ⟨_, rfl⟩
        rw [← hg] at hsp hty
        rw [show ((b y : Int) * (p y : Int)) = (g : Int) by rw [hg]; rfl]
        refine w_i2l h (pc := 31) dX1_pick_31 (by omega) ?_
        refine w_ladd h (pc := 32) dX1_pick_32 ?_
        refine w_lstore_n h (pc := 33) dX1_pick_33 (by decide) ?_
        refine w_iinc h (pc := 34) dX1_pick_34 rfl (by decide) ?_
        refine w_goto h (pc := 37) (tgt := 11) dX1_pick_37 (by decide) ?_
        exact WW.sub (by rfl) (ih y _ ((y : Int) + -1) (by omega) (by omega) (by omega) (by rw [hsp] at hs; omega))
  exact WW.sub (by rfl) (lp11 (V + 2) (V + 1) 0 (V : Int) (by omega) (by omega) (by omega) (by omega))
end
section
/-! the class's model: V words, the order N, way, number, m raises so far, the sentence S, the tallies T -/
def SA (u : US) (S : List Nat) : Prop := u.1 0 = (S.length : Int) ∧ ∀ (j w : Nat), S[j]? = some w → u.2 6 j = (w : Int)
def OK (V N way num m : Nat) (S : List Nat) : Prop := V ≤ 12 ∧ (1 ≤ N ∧ N ≤ 4) ∧ way ≤ 4 ∧ (1 ≤ num ∧ num ≤ 1000) ∧ m ≤ 700 ∧ S.length ≤ 12 ∧ ∀ w ∈ S, w < V
def AB (V N way num m : Nat) (S : List Nat) (T : Nat → List (Nat × Nat)) (u : US) : Prop := OK V N way num m S ∧ u.1 4 = (V : Int) ∧ u.1 5 = (N : Int) ∧ u.1 6 = (way : Int) ∧ u.1 7 = (num : Int) ∧ SA u S ∧ TA V m u T
theorem AB.of {V N way num m : Nat} {S : List Nat} {T : Nat → List (Nat × Nat)} {u u' : US} {ls gs : List Nat} (h : AB V N way num m S T u) (hF : Fr ls gs u u') (h1 : ∀ k, k ∈ tS → k ∉ ls) (h2 : ∀ k, k ∈ tG → k ∉ gs) (h3 : 0 ∉ ls ∧ 4 ∉ ls ∧ 5 ∉ ls ∧ 6 ∉ ls ∧ 7 ∉ ls) (h4 : 6 ∉ gs) : AB V N way num m S T u' := by
  obtain ⟨a1, a2, a3, a4, a5, ⟨a6, a7⟩, a8⟩ := h
  refine ⟨a1, (hF.1 4 h3.2.1).trans a2, (hF.1 5 h3.2.2.1).trans a3, (hF.1 6 h3.2.2.2.1).trans a4, (hF.1 7 h3.2.2.2.2).trans a5, ⟨(hF.1 0 h3.1).trans a6, fun j w hw => ?_⟩, a8.of hF h1 h2⟩
  rw [hF.2 6 h4]
  exact a7 j w hw
/-- a digit of a row: BEGIN 0, a word w is w + 1, the END V + 1 -/
def dg (V : Nat) (S : List Nat) (z : Int) : Nat := if z < 0 then 0 else match S[z.toNat]? with
  | some w => w + 1
  | none => V + 1
theorem dg_neg {V : Nat} {S : List Nat} {z : Int} (h : z < 0) : dg V S z = 0 := if_pos h
theorem dg_at {V : Nat} {S : List Nat} {j w : Nat} (h : S[j]? = some w) : dg V S (j : Int) = w + 1 := by
  unfold dg
  rw [if_neg (by omega), Int.toNat_natCast, h]
theorem dg_end {V : Nat} {S : List Nat} {z : Int} (h : (S.length : Int) ≤ z) : dg V S z = V + 1 := by
  unfold dg
  rw [if_neg (by omega), List.getElem?_eq_none (by omega)]
theorem dg_le {V : Nat} {S : List Nat} (hS : ∀ w ∈ S, w < V) (z : Int) : dg V S z ≤ V + 1 := by
  unfold dg
  split
  · omega
  · split
    · rename_i w hw
      have := hS w (List.mem_of_getElem? hw)
      omega
    · omega
theorem dg_pos {V : Nat} {S : List Nat} {z : Int} (h : 0 ≤ z) : 1 ≤ dg V S z := by
  unfold dg
  rw [if_neg (by omega)]
  split <;> omega
/-- the key of so many places that end with this one -/
def ky (V : Nat) (S : List Nat) (z : Int) : Nat → Nat
  | 0 => 0
  | n + 1 => ky V S (z - 1) n * 14 + dg V S z
theorem ky_lt {V : Nat} {S : List Nat} (hV : V ≤ 12) (hS : ∀ w ∈ S, w < V) : ∀ (n : Nat) (z : Int), ky V S z n < 14 ^ n
  | 0, _ => by unfold ky; omega
  | n + 1, z => by
    unfold ky
    have h1 := ky_lt hV hS n (z - 1)
    have h2 := dg_le hS z
    rw [Nat.pow_succ]
    omega
theorem ky_mod {V : Nat} {S : List Nat} (hV : V ≤ 12) (hS : ∀ w ∈ S, w < V) (n : Nat) (z : Int) : ky V S z (n + 1) % 14 = dg V S z := by
  have h2 := dg_le hS z
  unfold ky
  omega
theorem ky_4 {V : Nat} {S : List Nat} (hV : V ≤ 12) (hS : ∀ w ∈ S, w < V) {n : Nat} (hn : n ≤ 4) (z : Int) : ky V S z n < 38416 := by
  have h1 := ky_lt hV hS n z
  have h2 : 14 ^ n ≤ 14 ^ 4 := Nat.pow_le_pow_right (by omega) hn
  have h3 : (14 : Nat) ^ 4 = 38416 := by decide
  omega
/-- the chances behind the places ahead of z, the cost of what is there -/
def chz (V N way num : Nat) (S : List Nat) (T : Nat → List (Nat × Nat)) (z : Int) : Nat → Nat := chs way num V N (fun n => T (n - 1)) (fun n => T (n + 3)) N (ky V S (z - 1) (N - 1))
def cz (V N way num : Nat) (S : List Nat) (T : Nat → List (Nat × Nat)) (j : Nat) : Nat := co (chz V N way num S T (j : Int) (dg V S (j : Int) - 1))
def scr (V N way num : Nat) (S : List Nat) (T : Nat → List (Nat × Nat)) : Nat := sm (cz V N way num S T) (S.length + 1)
theorem chz_le {V N way num : Nat} {S : List Nat} {T : Nat → List (Nat × Nat)} (hnum : 1 ≤ num ∧ num ≤ 1000) (hN : 1 ≤ N) (z : Int) {w : Nat} (hw : w ≤ V) : chz V N way num S T z w ≤ 1000000 := (chs_Ch hnum hN).each w (by omega)
theorem shr_u {j : Nat} (h : j < 21) : iI 1000000 >>> (iI (j : Int) &&& 31) = iI ((1000000 / 2 ^ j : Nat) : Int) := by
  have key : ∀ j : Nat, j < 21 → iI 1000000 >>> (iI (j : Int) &&& 31) = iI ((1000000 / 2 ^ j : Nat) : Int) := by decide +kernel
  exact key j h
theorem half_lt {j : Nat} (h : j < 20) : 1000000 / 2 ^ (j + 1) < 1000000 / 2 ^ j ∧ 1000000 / 2 ^ j ≤ 1000000 := by
  have key : ∀ j : Nat, j < 20 → 1000000 / 2 ^ (j + 1) < 1000000 / 2 ^ j ∧ 1000000 / 2 ^ j ≤ 1000000 := by decide +kernel
  exact key j h
theorem hv_stop {p h : Nat} (hq : ¬ (h < 19 ∧ p ≤ 1000000 / 2 ^ (h + 1))) : ∀ f : Nat, hv p f h = h
  | 0 => rfl
  | f + 1 => by unfold hv; rw [if_neg hq]
theorem half_gap {j : Nat} (h : j < 20) : 2 * (1000000 / 2 ^ (j + 1)) ≤ 1000000 / 2 ^ j := by
  have key : ∀ j : Nat, j < 20 → 2 * (1000000 / 2 ^ (j + 1)) ≤ 1000000 / 2 ^ j := by decide +kernel
  exact key j h
theorem co_le (p : Nat) : co p ≤ 32768 := by
  unfold co
  split
  · omega
  · split
    · omega
    · rename_i h1 h2
      have hh := hv_le p 19 0 (by omega)
      obtain ⟨h, hq⟩ : ∃ h, h = hv p 19 0 := ⟨_, rfl⟩
      rw [← hq] at hh ⊢
      have hl := half_lt (j := h) (by omega)
      have hg := half_gap (j := h) (by omega)
      obtain ⟨A, hA⟩ : ∃ A, A = 1000000 / 2 ^ h := ⟨_, rfl⟩
      obtain ⟨B, hB⟩ : ∃ B, B = 1000000 / 2 ^ (h + 1) := ⟨_, rfl⟩
      rw [← hA, ← hB] at hl hg ⊢
      have h3 : 1024 * (A - p) / (A - B) ≤ 4096 := by
        refine Nat.div_le_of_le_mul ?_
        have : A - p ≤ 2 * (A - B) := by omega
        omega
      omega
theorem scr_le {V N way num : Nat} {S : List Nat} {T : Nat → List (Nat × Nat)} (n : Nat) : sm (cz V N way num S T) n ≤ n * 32768 := sm_bound n fun i _ => co_le _
end
section
theorem dX5_cost_0 : decode cX5_cost 0 = .ok (.iload_n 0, 1) := by decide +kernel
theorem dX5_cost_1 : decode cX5_cost 1 = .ok (.ifCond .gt 7, 3) := by decide +kernel
theorem dX5_cost_4 : decode cX5_cost 4 = .ok (.ldc_w 309, 3) := by decide +kernel
theorem dX5_cost_7 : decode cX5_cost 7 = .ok (.ireturn, 1) := by decide +kernel
theorem dX5_cost_8 : decode cX5_cost 8 = .ok (.iload_n 0, 1) := by decide +kernel
theorem dX5_cost_9 : decode cX5_cost 9 = .ok (.ldc 163, 2) := by decide +kernel
theorem dX5_cost_11 : decode cX5_cost 11 = .ok (.if_icmp .lt 5, 3) := by decide +kernel
theorem dX5_cost_14 : decode cX5_cost 14 = .ok (.iconst 0, 1) := by decide +kernel
theorem dX5_cost_15 : decode cX5_cost 15 = .ok (.ireturn, 1) := by decide +kernel
theorem dX5_cost_16 : decode cX5_cost 16 = .ok (.iconst 0, 1) := by decide +kernel
theorem dX5_cost_17 : decode cX5_cost 17 = .ok (.istore_n 1, 1) := by decide +kernel
theorem dX5_cost_18 : decode cX5_cost 18 = .ok (.iload_n 1, 1) := by decide +kernel
theorem dX5_cost_19 : decode cX5_cost 19 = .ok (.bipush 19, 2) := by decide +kernel
theorem dX5_cost_21 : decode cX5_cost 21 = .ok (.if_icmp .ge 19, 3) := by decide +kernel
theorem dX5_cost_24 : decode cX5_cost 24 = .ok (.iload_n 0, 1) := by decide +kernel
theorem dX5_cost_25 : decode cX5_cost 25 = .ok (.ldc 163, 2) := by decide +kernel
theorem dX5_cost_27 : decode cX5_cost 27 = .ok (.iload_n 1, 1) := by decide +kernel
theorem dX5_cost_28 : decode cX5_cost 28 = .ok (.iconst 1, 1) := by decide +kernel
theorem dX5_cost_29 : decode cX5_cost 29 = .ok (.iadd, 1) := by decide +kernel
theorem dX5_cost_30 : decode cX5_cost 30 = .ok (.ishr, 1) := by decide +kernel
theorem dX5_cost_31 : decode cX5_cost 31 = .ok (.if_icmp .gt 9, 3) := by decide +kernel
theorem dX5_cost_34 : decode cX5_cost 34 = .ok (.iinc 1 1, 3) := by decide +kernel
theorem dX5_cost_37 : decode cX5_cost 37 = .ok (.goto (-19), 3) := by decide +kernel
theorem dX5_cost_40 : decode cX5_cost 40 = .ok (.ldc 163, 2) := by decide +kernel
theorem dX5_cost_42 : decode cX5_cost 42 = .ok (.iload_n 1, 1) := by decide +kernel
theorem dX5_cost_43 : decode cX5_cost 43 = .ok (.ishr, 1) := by decide +kernel
theorem dX5_cost_44 : decode cX5_cost 44 = .ok (.istore_n 2, 1) := by decide +kernel
theorem dX5_cost_45 : decode cX5_cost 45 = .ok (.ldc 163, 2) := by decide +kernel
theorem dX5_cost_47 : decode cX5_cost 47 = .ok (.iload_n 1, 1) := by decide +kernel
theorem dX5_cost_48 : decode cX5_cost 48 = .ok (.iconst 1, 1) := by decide +kernel
theorem dX5_cost_49 : decode cX5_cost 49 = .ok (.iadd, 1) := by decide +kernel
theorem dX5_cost_50 : decode cX5_cost 50 = .ok (.ishr, 1) := by decide +kernel
theorem dX5_cost_51 : decode cX5_cost 51 = .ok (.istore_n 3, 1) := by decide +kernel
theorem dX5_cost_52 : decode cX5_cost 52 = .ok (.sipush 1024, 3) := by decide +kernel
theorem dX5_cost_55 : decode cX5_cost 55 = .ok (.iload_n 1, 1) := by decide +kernel
theorem dX5_cost_56 : decode cX5_cost 56 = .ok (.imul, 1) := by decide +kernel
theorem dX5_cost_57 : decode cX5_cost 57 = .ok (.sipush 1024, 3) := by decide +kernel
theorem dX5_cost_60 : decode cX5_cost 60 = .ok (.iload_n 2, 1) := by decide +kernel
theorem dX5_cost_61 : decode cX5_cost 61 = .ok (.iload_n 0, 1) := by decide +kernel
theorem dX5_cost_62 : decode cX5_cost 62 = .ok (.isub, 1) := by decide +kernel
theorem dX5_cost_63 : decode cX5_cost 63 = .ok (.imul, 1) := by decide +kernel
theorem dX5_cost_64 : decode cX5_cost 64 = .ok (.iload_n 2, 1) := by decide +kernel
theorem dX5_cost_65 : decode cX5_cost 65 = .ok (.iload_n 3, 1) := by decide +kernel
theorem dX5_cost_66 : decode cX5_cost 66 = .ok (.isub, 1) := by decide +kernel
theorem dX5_cost_67 : decode cX5_cost 67 = .ok (.idiv, 1) := by decide +kernel
theorem dX5_cost_68 : decode cX5_cost 68 = .ok (.iadd, 1) := by decide +kernel
theorem dX5_cost_69 : decode cX5_cost 69 = .ok (.ireturn, 1) := by decide +kernel
theorem dX5_digitAt_0 : decode cX5_digitAt 0 = .ok (.iload_n 1, 1) := by decide +kernel
theorem dX5_digitAt_1 : decode cX5_digitAt 1 = .ok (.ifCond .ge 5, 3) := by decide +kernel
theorem dX5_digitAt_4 : decode cX5_digitAt 4 = .ok (.iconst 0, 1) := by decide +kernel
theorem dX5_digitAt_5 : decode cX5_digitAt 5 = .ok (.ireturn, 1) := by decide +kernel
theorem dX5_digitAt_6 : decode cX5_digitAt 6 = .ok (.iload_n 1, 1) := by decide +kernel
theorem dX5_digitAt_7 : decode cX5_digitAt 7 = .ok (.aload_n 0, 1) := by decide +kernel
theorem dX5_digitAt_8 : decode cX5_digitAt 8 = .ok (.getfield 51, 3) := by decide +kernel
theorem dX5_digitAt_11 : decode cX5_digitAt 11 = .ok (.if_icmp .ge 14, 3) := by decide +kernel
theorem dX5_digitAt_14 : decode cX5_digitAt 14 = .ok (.aload_n 0, 1) := by decide +kernel
theorem dX5_digitAt_15 : decode cX5_digitAt 15 = .ok (.getfield 47, 3) := by decide +kernel
theorem dX5_digitAt_18 : decode cX5_digitAt 18 = .ok (.iload_n 1, 1) := by decide +kernel
theorem dX5_digitAt_19 : decode cX5_digitAt 19 = .ok (.iaload, 1) := by decide +kernel
theorem dX5_digitAt_20 : decode cX5_digitAt 20 = .ok (.iconst 1, 1) := by decide +kernel
theorem dX5_digitAt_21 : decode cX5_digitAt 21 = .ok (.iadd, 1) := by decide +kernel
theorem dX5_digitAt_22 : decode cX5_digitAt 22 = .ok (.goto 12, 3) := by decide +kernel
theorem dX5_digitAt_25 : decode cX5_digitAt 25 = .ok (.aload_n 0, 1) := by decide +kernel
theorem dX5_digitAt_26 : decode cX5_digitAt 26 = .ok (.getfield 10, 3) := by decide +kernel
theorem dX5_digitAt_29 : decode cX5_digitAt 29 = .ok (.getfield 65, 3) := by decide +kernel
theorem dX5_digitAt_32 : decode cX5_digitAt 32 = .ok (.iconst 1, 1) := by decide +kernel
theorem dX5_digitAt_33 : decode cX5_digitAt 33 = .ok (.iadd, 1) := by decide +kernel
theorem dX5_digitAt_34 : decode cX5_digitAt 34 = .ok (.ireturn, 1) := by decide +kernel
theorem dX5_keyUpTo_0 : decode cX5_keyUpTo 0 = .ok (.iconst 0, 1) := by decide +kernel
theorem dX5_keyUpTo_1 : decode cX5_keyUpTo 1 = .ok (.istore_n 3, 1) := by decide +kernel
theorem dX5_keyUpTo_2 : decode cX5_keyUpTo 2 = .ok (.iload_n 1, 1) := by decide +kernel
theorem dX5_keyUpTo_3 : decode cX5_keyUpTo 3 = .ok (.iload_n 2, 1) := by decide +kernel
theorem dX5_keyUpTo_4 : decode cX5_keyUpTo 4 = .ok (.isub, 1) := by decide +kernel
theorem dX5_keyUpTo_5 : decode cX5_keyUpTo 5 = .ok (.iconst 1, 1) := by decide +kernel
theorem dX5_keyUpTo_6 : decode cX5_keyUpTo 6 = .ok (.iadd, 1) := by decide +kernel
theorem dX5_keyUpTo_7 : decode cX5_keyUpTo 7 = .ok (.istore 4, 2) := by decide +kernel
theorem dX5_keyUpTo_9 : decode cX5_keyUpTo 9 = .ok (.iload 4, 2) := by decide +kernel
theorem dX5_keyUpTo_11 : decode cX5_keyUpTo 11 = .ok (.iload_n 1, 1) := by decide +kernel
theorem dX5_keyUpTo_12 : decode cX5_keyUpTo 12 = .ok (.if_icmp .gt 21, 3) := by decide +kernel
theorem dX5_keyUpTo_15 : decode cX5_keyUpTo 15 = .ok (.iload_n 3, 1) := by decide +kernel
theorem dX5_keyUpTo_16 : decode cX5_keyUpTo 16 = .ok (.bipush 14, 2) := by decide +kernel
theorem dX5_keyUpTo_18 : decode cX5_keyUpTo 18 = .ok (.imul, 1) := by decide +kernel
theorem dX5_keyUpTo_19 : decode cX5_keyUpTo 19 = .ok (.aload_n 0, 1) := by decide +kernel
theorem dX5_keyUpTo_20 : decode cX5_keyUpTo 20 = .ok (.iload 4, 2) := by decide +kernel
theorem dX5_keyUpTo_22 : decode cX5_keyUpTo 22 = .ok (.invokevirtual 267, 3) := by decide +kernel
theorem dX5_keyUpTo_25 : decode cX5_keyUpTo 25 = .ok (.iadd, 1) := by decide +kernel
theorem dX5_keyUpTo_26 : decode cX5_keyUpTo 26 = .ok (.istore_n 3, 1) := by decide +kernel
theorem dX5_keyUpTo_27 : decode cX5_keyUpTo 27 = .ok (.iinc 4 1, 3) := by decide +kernel
theorem dX5_keyUpTo_30 : decode cX5_keyUpTo 30 = .ok (.goto (-21), 3) := by decide +kernel
theorem dX5_keyUpTo_33 : decode cX5_keyUpTo 33 = .ok (.iload_n 3, 1) := by decide +kernel
theorem dX5_keyUpTo_34 : decode cX5_keyUpTo 34 = .ok (.ireturn, 1) := by decide +kernel
theorem dX5_reckonBehindSentence_0 : decode cX5_reckonBehindSentence 0 = .ok (.aload_n 0, 1) := by decide +kernel
theorem dX5_reckonBehindSentence_1 : decode cX5_reckonBehindSentence 1 = .ok (.getfield 21, 3) := by decide +kernel
theorem dX5_reckonBehindSentence_4 : decode cX5_reckonBehindSentence 4 = .ok (.aload_n 0, 1) := by decide +kernel
theorem dX5_reckonBehindSentence_5 : decode cX5_reckonBehindSentence 5 = .ok (.getfield 10, 3) := by decide +kernel
theorem dX5_reckonBehindSentence_8 : decode cX5_reckonBehindSentence 8 = .ok (.getfield 83, 3) := by decide +kernel
theorem dX5_reckonBehindSentence_11 : decode cX5_reckonBehindSentence 11 = .ok (.aload_n 0, 1) := by decide +kernel
theorem dX5_reckonBehindSentence_12 : decode cX5_reckonBehindSentence 12 = .ok (.aload_n 0, 1) := by decide +kernel
theorem dX5_reckonBehindSentence_13 : decode cX5_reckonBehindSentence 13 = .ok (.getfield 51, 3) := by decide +kernel
theorem dX5_reckonBehindSentence_16 : decode cX5_reckonBehindSentence 16 = .ok (.iconst 1, 1) := by decide +kernel
theorem dX5_reckonBehindSentence_17 : decode cX5_reckonBehindSentence 17 = .ok (.isub, 1) := by decide +kernel
theorem dX5_reckonBehindSentence_18 : decode cX5_reckonBehindSentence 18 = .ok (.aload_n 0, 1) := by decide +kernel
theorem dX5_reckonBehindSentence_19 : decode cX5_reckonBehindSentence 19 = .ok (.getfield 10, 3) := by decide +kernel
theorem dX5_reckonBehindSentence_22 : decode cX5_reckonBehindSentence 22 = .ok (.getfield 83, 3) := by decide +kernel
theorem dX5_reckonBehindSentence_25 : decode cX5_reckonBehindSentence 25 = .ok (.iconst 1, 1) := by decide +kernel
theorem dX5_reckonBehindSentence_26 : decode cX5_reckonBehindSentence 26 = .ok (.isub, 1) := by decide +kernel
theorem dX5_reckonBehindSentence_27 : decode cX5_reckonBehindSentence 27 = .ok (.invokevirtual 202, 3) := by decide +kernel
theorem dX5_reckonBehindSentence_30 : decode cX5_reckonBehindSentence 30 = .ok (.invokevirtual 298, 3) := by decide +kernel
theorem dX5_reckonBehindSentence_33 : decode cX5_reckonBehindSentence 33 = .ok (.return_, 1) := by decide +kernel
theorem dX5_sumOfCosts_0 : decode cX5_sumOfCosts 0 = .ok (.iconst 0, 1) := by decide +kernel
theorem dX5_sumOfCosts_1 : decode cX5_sumOfCosts 1 = .ok (.istore_n 1, 1) := by decide +kernel
theorem dX5_sumOfCosts_2 : decode cX5_sumOfCosts 2 = .ok (.iconst 0, 1) := by decide +kernel
theorem dX5_sumOfCosts_3 : decode cX5_sumOfCosts 3 = .ok (.istore_n 2, 1) := by decide +kernel
theorem dX5_sumOfCosts_4 : decode cX5_sumOfCosts 4 = .ok (.iload_n 2, 1) := by decide +kernel
theorem dX5_sumOfCosts_5 : decode cX5_sumOfCosts 5 = .ok (.aload_n 0, 1) := by decide +kernel
theorem dX5_sumOfCosts_6 : decode cX5_sumOfCosts 6 = .ok (.getfield 51, 3) := by decide +kernel
theorem dX5_sumOfCosts_9 : decode cX5_sumOfCosts 9 = .ok (.if_icmp .gt 72, 3) := by decide +kernel
theorem dX5_sumOfCosts_12 : decode cX5_sumOfCosts 12 = .ok (.aload_n 0, 1) := by decide +kernel
theorem dX5_sumOfCosts_13 : decode cX5_sumOfCosts 13 = .ok (.getfield 21, 3) := by decide +kernel
theorem dX5_sumOfCosts_16 : decode cX5_sumOfCosts 16 = .ok (.aload_n 0, 1) := by decide +kernel
theorem dX5_sumOfCosts_17 : decode cX5_sumOfCosts 17 = .ok (.getfield 10, 3) := by decide +kernel
theorem dX5_sumOfCosts_20 : decode cX5_sumOfCosts 20 = .ok (.getfield 83, 3) := by decide +kernel
theorem dX5_sumOfCosts_23 : decode cX5_sumOfCosts 23 = .ok (.aload_n 0, 1) := by decide +kernel
theorem dX5_sumOfCosts_24 : decode cX5_sumOfCosts 24 = .ok (.iload_n 2, 1) := by decide +kernel
theorem dX5_sumOfCosts_25 : decode cX5_sumOfCosts 25 = .ok (.iconst 1, 1) := by decide +kernel
theorem dX5_sumOfCosts_26 : decode cX5_sumOfCosts 26 = .ok (.isub, 1) := by decide +kernel
theorem dX5_sumOfCosts_27 : decode cX5_sumOfCosts 27 = .ok (.aload_n 0, 1) := by decide +kernel
theorem dX5_sumOfCosts_28 : decode cX5_sumOfCosts 28 = .ok (.getfield 10, 3) := by decide +kernel
theorem dX5_sumOfCosts_31 : decode cX5_sumOfCosts 31 = .ok (.getfield 83, 3) := by decide +kernel
theorem dX5_sumOfCosts_34 : decode cX5_sumOfCosts 34 = .ok (.iconst 1, 1) := by decide +kernel
theorem dX5_sumOfCosts_35 : decode cX5_sumOfCosts 35 = .ok (.isub, 1) := by decide +kernel
theorem dX5_sumOfCosts_36 : decode cX5_sumOfCosts 36 = .ok (.invokevirtual 202, 3) := by decide +kernel
theorem dX5_sumOfCosts_39 : decode cX5_sumOfCosts 39 = .ok (.invokevirtual 298, 3) := by decide +kernel
theorem dX5_sumOfCosts_42 : decode cX5_sumOfCosts 42 = .ok (.aload_n 0, 1) := by decide +kernel
theorem dX5_sumOfCosts_43 : decode cX5_sumOfCosts 43 = .ok (.iload_n 2, 1) := by decide +kernel
theorem dX5_sumOfCosts_44 : decode cX5_sumOfCosts 44 = .ok (.invokevirtual 267, 3) := by decide +kernel
theorem dX5_sumOfCosts_47 : decode cX5_sumOfCosts 47 = .ok (.iconst 1, 1) := by decide +kernel
theorem dX5_sumOfCosts_48 : decode cX5_sumOfCosts 48 = .ok (.isub, 1) := by decide +kernel
theorem dX5_sumOfCosts_49 : decode cX5_sumOfCosts 49 = .ok (.istore_n 3, 1) := by decide +kernel
theorem dX5_sumOfCosts_50 : decode cX5_sumOfCosts 50 = .ok (.iload_n 3, 1) := by decide +kernel
theorem dX5_sumOfCosts_51 : decode cX5_sumOfCosts 51 = .ok (.ifCond .lt 24, 3) := by decide +kernel
theorem dX5_sumOfCosts_54 : decode cX5_sumOfCosts 54 = .ok (.iload_n 3, 1) := by decide +kernel
theorem dX5_sumOfCosts_55 : decode cX5_sumOfCosts 55 = .ok (.bipush 12, 2) := by decide +kernel
theorem dX5_sumOfCosts_57 : decode cX5_sumOfCosts 57 = .ok (.if_icmp .gt 18, 3) := by decide +kernel
theorem dX5_sumOfCosts_60 : decode cX5_sumOfCosts 60 = .ok (.iload_n 1, 1) := by decide +kernel
theorem dX5_sumOfCosts_61 : decode cX5_sumOfCosts 61 = .ok (.aload_n 0, 1) := by decide +kernel
theorem dX5_sumOfCosts_62 : decode cX5_sumOfCosts 62 = .ok (.getfield 21, 3) := by decide +kernel
theorem dX5_sumOfCosts_65 : decode cX5_sumOfCosts 65 = .ok (.getfield 186, 3) := by decide +kernel
theorem dX5_sumOfCosts_68 : decode cX5_sumOfCosts 68 = .ok (.iload_n 3, 1) := by decide +kernel
theorem dX5_sumOfCosts_69 : decode cX5_sumOfCosts 69 = .ok (.iaload, 1) := by decide +kernel
theorem dX5_sumOfCosts_70 : decode cX5_sumOfCosts 70 = .ok (.invokestatic 194, 3) := by decide +kernel
theorem dX5_sumOfCosts_73 : decode cX5_sumOfCosts 73 = .ok (.iadd, 1) := by decide +kernel
theorem dX5_sumOfCosts_74 : decode cX5_sumOfCosts 74 = .ok (.istore_n 1, 1) := by decide +kernel
theorem dX5_sumOfCosts_75 : decode cX5_sumOfCosts 75 = .ok (.iinc 2 1, 3) := by decide +kernel
theorem dX5_sumOfCosts_78 : decode cX5_sumOfCosts 78 = .ok (.goto (-74), 3) := by decide +kernel
theorem dX5_sumOfCosts_81 : decode cX5_sumOfCosts 81 = .ok (.iload_n 1, 1) := by decide +kernel
theorem dX5_sumOfCosts_82 : decode cX5_sumOfCosts 82 = .ok (.ireturn, 1) := by decide +kernel
set_option maxHeartbeats 4000000 in
set_option maxRecDepth 100000 in
theorem mX5_digitAt (l : Launch) (D : va_G) (κ a : Nat → Nat) (ε : Nat) (V N way num m : Nat) (S : List Nat) (T : Nat → List (Nat × Nat)) (u : US) (hA : AB V N way num m S T u) (z : Int) (hz : -100 ≤ z ∧ z ≤ 100) : Ct (W0 κ a) l D κ ε yX5_digitAt cX5_digitAt 2 (some .int) 0 0 0 0 u [.ref (a 0), .int (iI z)] (fun v u' => v = some (.int (iI (dg V S z : Int))) ∧ u' = u) := by
  obtain ⟨⟨hV, hN, hway, hnum, hm, hSl, hSV⟩, eV, eN, ew, en, ⟨eS, hS⟩, hT⟩ := id hA
  refine Ct.of (own := RX5) rfl (by decide +kernel) (Nat.le_of_ble_eq_true rfl) rfl (fun Γ h => ?_)
  refine w_iload_n h (pc := 0) dX5_digitAt_0 rfl ?_
  refine w_if_ge h (pc := 1) (tgt := 6) dX5_digitAt_1 (by decide) (by omega) (fun c1 => ?_) (fun c1 => ?_)
  · refine w_iload_n h (pc := 6) dX5_digitAt_6 rfl ?_
    refine w_aload_n h (pc := 7) dX5_digitAt_7 rfl ?_
    refine g0_length h (pc := 8) eS wm_33 dX5_digitAt_8 ?_
    refine w_icmp_ge h (pc := 11) (tgt := 25) dX5_digitAt_11 (by decide) (by omega) (by omega) (fun c11 => ?_) (fun c11 => ?_)
    · have hd := dg_end (V := V) (S := S) (z := z) (by omega)
      refine w_aload_n h (pc := 25) dX5_digitAt_25 rfl ?_
      refine g0_ledger h (pc := 26) wm_16 dX5_digitAt_26 ?_
      refine g1_words h (pc := 29) eV wm_113 dX5_digitAt_29 ?_
      refine w_iconst h (pc := 32) dX5_digitAt_32 ?_
      refine w_iadd h (pc := 33) dX5_digitAt_33 ?_
      exact w_iret h (pc := 34) (ty := .int) rfl rfl dX5_digitAt_34 (Nat.le_of_ble_eq_true rfl) (Nat.le_of_ble_eq_true rfl) ⟨by rw [hd]; rfl, rfl⟩
    · obtain ⟨j, rfl⟩ : ∃ j : Nat, z = (j : Int) := ⟨z.toNat, by omega⟩
      obtain ⟨w, hw⟩ : ∃ w, S[j]? = some w := ⟨S[j]'(by omega), List.getElem?_eq_getElem (by omega)⟩
      have hd := dg_at (V := V) hw
      refine w_aload_n h (pc := 14) dX5_digitAt_14 rfl ?_
      refine g0_sentence h (pc := 15) wm_32 dX5_digitAt_15 ?_
      refine w_iload_n h (pc := 18) dX5_digitAt_18 rfl ?_
      refine ld_sentence h (pc := 19) (by omega) (hS j w hw) dX5_digitAt_19 ?_
      refine w_iconst h (pc := 20) dX5_digitAt_20 ?_
      refine w_iadd h (pc := 21) dX5_digitAt_21 ?_
      refine w_goto h (pc := 22) (tgt := 34) dX5_digitAt_22 (by decide) ?_
      exact w_iret h (pc := 34) (ty := .int) rfl rfl dX5_digitAt_34 (Nat.le_of_ble_eq_true rfl) (Nat.le_of_ble_eq_true rfl) ⟨by rw [hd]; rfl, rfl⟩
  · have hd := dg_neg (V := V) (S := S) (z := z) (by omega)
    refine w_iconst h (pc := 4) dX5_digitAt_4 ?_
    exact w_iret h (pc := 5) (ty := .int) rfl rfl dX5_digitAt_5 (Nat.le_of_ble_eq_true rfl) (Nat.le_of_ble_eq_true rfl) ⟨by rw [hd]; rfl, rfl⟩

set_option maxHeartbeats 4000000 in
set_option maxRecDepth 100000 in
theorem mX5_keyUpTo (l : Launch) (D : va_G) (κ a : Nat → Nat) (ε : Nat) (V N way num m : Nat) (S : List Nat) (T : Nat → List (Nat × Nat)) (u : US) (hA : AB V N way num m S T u) (z : Int) (hz : -50 ≤ z ∧ z ≤ 50) (n : Nat) (hn : n ≤ 4) : Ct (W0 κ a) l D κ ε yX5_keyUpTo cX5_keyUpTo 5 (some .int) 1 21 0 0 u [.ref (a 0), .int (iI z), .int (iI (n : Int))] (fun v u' => v = some (.int (iI (ky V S z n : Int))) ∧ u' = u) := by
  obtain ⟨⟨hV, hN, hway, hnum, hm, hSl, hSV⟩, eV, eN, ew, en, ⟨eS, hS⟩, hT⟩ := id hA
  refine Ct.of (own := RX5) rfl (by decide +kernel) (Nat.le_of_ble_eq_true rfl) rfl (fun Γ h => ?_)
  refine w_iconst h (pc := 0) dX5_keyUpTo_0 ?_
  refine w_istore_n h (pc := 1) dX5_keyUpTo_1 (by decide) ?_
  refine w_iload_n h (pc := 2) dX5_keyUpTo_2 rfl ?_
  refine w_iload_n h (pc := 3) dX5_keyUpTo_3 rfl ?_
  refine w_isub h (pc := 4) dX5_keyUpTo_4 ?_
  refine w_iconst h (pc := 5) dX5_keyUpTo_5 ?_
  refine w_iadd h (pc := 6) dX5_keyUpTo_6 ?_
  refine w_istore h (pc := 7) dX5_keyUpTo_7 (by decide) ?_
  have lp9 : ∀ (n9 k : Nat) (y : Int), y = z - n + k → n < k + n9 → k ≤ n → WW Γ 5 u 9 [(0, .ref (a 0)), (1, .int (iI z)), (3, .int (iI (ky V S y k : Int))), (4, .int (iI (y + 1)))] [] := by
    intro n9
    induction n9 with
    | zero => intro k y hy hn9 hk; exfalso; omega
    | succ n9 ih =>
      intro k y hy hn9 hk
      have hky := ky_4 hV hSV (n := k) (by omega) y
      refine w_iload h (pc := 9) dX5_keyUpTo_9 rfl ?_
      refine w_iload_n h (pc := 11) dX5_keyUpTo_11 rfl ?_
      refine w_icmp_gt h (pc := 12) (tgt := 33) dX5_keyUpTo_12 (by decide) (by omega) (by omega) (fun c12 => ?_) (fun c12 => ?_)
      · obtain rfl : k = n := by omega
        obtain rfl : y = z := by omega
        refine w_iload_n h (pc := 33) dX5_keyUpTo_33 rfl ?_
        exact w_iret h (pc := 34) (ty := .int) rfl rfl dX5_keyUpTo_34 (Nat.le_of_ble_eq_true rfl) (Nat.le_of_ble_eq_true rfl) ⟨rfl, rfl⟩
      · refine w_iload_n h (pc := 15) dX5_keyUpTo_15 rfl ?_
        refine w_bipush h (pc := 16) dX5_keyUpTo_16 (by decide) ?_
        refine w_imul h (pc := 18) dX5_keyUpTo_18 ?_
        refine w_aload_n h (pc := 19) dX5_keyUpTo_19 rfl ?_
        refine w_iload h (pc := 20) dX5_keyUpTo_20 rfl ?_
        refine w_callV1 h (pc := 22) (mX5_digitAt l D κ a ε V N way num m S T u hA (y + 1) (by omega)) 0 rfl rfl (gdV wm_174 wm_175 wm_176 wm_2 wm_177) (by decide +kernel) ⟨(Nat.le_of_ble_eq_true rfl), (Nat.le_of_ble_eq_true rfl)⟩ ⟨(Nat.le_of_ble_eq_true rfl), (Nat.le_of_ble_eq_true rfl)⟩ (fun _ _ _ => ⟨rfl, rfl⟩) (Nat.le_of_ble_eq_true rfl) dX5_keyUpTo_22 (fun v1 u1 hp1 => ?_)
        obtain ⟨rfl, e1⟩ := hp1
        obtain rfl := e1.symm
        have hdl := dg_le hSV (y + 1)
        have hkk : ky V S (y + 1) (k + 1) = ky V S y k * 14 + dg V S (y + 1) := by show ky V S (y + 1 - 1) k * 14 + _ = _; rw [show y + 1 - 1 = y by omega]
        simp only [Option.toList_some, List.cons_append, List.nil_append]
        refine w_iadd h (pc := 25) dX5_keyUpTo_25 ?_
        rw [show ((ky V S y k : Int) * 14 + (dg V S (y + 1) : Int)) = (ky V S (y + 1) (k + 1) : Int) by rw [hkk]; rfl]
        refine w_istore_n h (pc := 26) dX5_keyUpTo_26 (by decide) ?_
        refine w_iinc h (pc := 27) dX5_keyUpTo_27 rfl (by decide) ?_
        refine w_goto h (pc := 30) (tgt := 9) dX5_keyUpTo_30 (by decide) ?_
        exact WW.sub (by rfl) (ih (k + 1) (y + 1) (by omega) (by omega) (by omega))
  exact WW.sub (by rfl) (lp9 (n + 1) 0 (z - n) (by omega) (by omega) (by omega))

set_option maxHeartbeats 4000000 in
set_option maxRecDepth 100000 in
theorem mX5_cost (l : Launch) (D : va_G) (κ a : Nat → Nat) (ε : Nat) (u : US) (p : Nat) (hp : p ≤ 1000000) : Ct (W0 κ a) l D κ ε yX5_cost cX5_cost 4 (some .int) 0 0 0 0 u [.int (iI (p : Int))] (fun v u' => v = some (.int (iI (co p : Int))) ∧ u' = u) := by
  refine Ct.of (own := RX5) rfl (by decide +kernel) (Nat.le_of_ble_eq_true rfl) rfl (fun Γ h => ?_)
  refine w_iload_n h (pc := 0) dX5_cost_0 rfl ?_
  refine w_if_gt h (pc := 1) (tgt := 8) dX5_cost_1 (by decide) (by omega) (fun c1 => ?_) (fun c1 => ?_)
  · refine w_iload_n h (pc := 8) dX5_cost_8 rfl ?_
    refine w_ldc h (pc := 9) (z := 1000000) dX5_cost_9 wm_345 (by decide) ?_
    refine w_icmp_lt h (pc := 11) (tgt := 16) dX5_cost_11 (by decide) (by omega) (by omega) (fun c11 => ?_) (fun c11 => ?_)
    · refine w_iconst h (pc := 16) dX5_cost_16 ?_
      refine w_istore_n h (pc := 17) dX5_cost_17 (by decide) ?_
      have lp18 : ∀ (n9 h9 : Nat), 19 < h9 + n9 → h9 ≤ 19 → hv p (19 - h9) h9 = hv p 19 0 → p ≤ 1000000 / 2 ^ h9 → WW Γ 4 u 18 [(0, .int (iI (p : Int))), (1, .int (iI (h9 : Int)))] [] := by
        intro n9
        induction n9 with
        | zero => intro h9 hn9 hle heq hpu; exfalso; omega
        | succ n9 ih =>
          intro h9 hn9 hle heq hpu
          have hl := half_lt (j := h9) (by omega)
          obtain ⟨X, hX⟩ : ∃ X, X = 1000000 / 2 ^ h9 := ⟨_, rfl⟩
          obtain ⟨Y, hY⟩ : ∃ Y, Y = 1000000 / 2 ^ (h9 + 1) := ⟨_, rfl⟩
          rw [← hX, ← hY] at hl
          rw [← hX] at hpu
          refine w_iload_n h (pc := 18) dX5_cost_18 rfl ?_
          refine w_bipush h (pc := 19) dX5_cost_19 (by decide) ?_
          refine w_icmp_ge h (pc := 21) (tgt := 40) dX5_cost_21 (by decide) (by omega) (by omega) (fun c21 => ?_) (fun c21 => ?_)
          · have hst : hv p 19 0 = h9 := by rw [← heq]; exact hv_stop (by rw [← hY]; omega) _
            have hr : co p = 1024 * h9 + 1024 * (X - p) / (X - Y) := by unfold co; rw [if_neg (by omega), if_neg (by omega), hst, hX, hY]
            refine w_ldc h (pc := 40) (z := 1000000) dX5_cost_40 wm_345 (by decide) ?_
            refine w_iload_n h (pc := 42) dX5_cost_42 rfl ?_
            refine w_ishr h (pc := 43) (z := (X : Int)) dX5_cost_43 ((shr_u (j := h9) (by omega)).trans (by rw [hX])) ?_
            refine w_istore_n h (pc := 44) dX5_cost_44 (by decide) ?_
            refine w_ldc h (pc := 45) (z := 1000000) dX5_cost_45 wm_345 (by decide) ?_
            refine w_iload_n h (pc := 47) dX5_cost_47 rfl ?_
            refine w_iconst h (pc := 48) dX5_cost_48 ?_
            refine w_iadd h (pc := 49) dX5_cost_49 ?_
            refine w_ishr h (pc := 50) (z := (Y : Int)) dX5_cost_50 ((shr_u (j := h9 + 1) (by omega)).trans (by rw [hY])) ?_
            refine w_istore_n h (pc := 51) dX5_cost_51 (by decide) ?_
            refine w_sipush h (pc := 52) dX5_cost_52 (by decide) ?_
            refine w_iload_n h (pc := 55) dX5_cost_55 rfl ?_
            refine w_imul h (pc := 56) dX5_cost_56 ?_
            refine w_sipush h (pc := 57) dX5_cost_57 (by decide) ?_
            refine w_iload_n h (pc := 60) dX5_cost_60 rfl ?_
            refine w_iload_n h (pc := 61) dX5_cost_61 rfl ?_
            refine w_isub h (pc := 62) dX5_cost_62 ?_
            refine w_imul h (pc := 63) dX5_cost_63 ?_
            refine w_iload_n h (pc := 64) dX5_cost_64 rfl ?_
            refine w_iload_n h (pc := 65) dX5_cost_65 rfl ?_
            refine w_isub h (pc := 66) dX5_cost_66 ?_
            refine w_idiv h (pc := 67) dX5_cost_67 (by omega) (by omega) ?_
            rw [show (X : Int) - (p : Int) = ((X - p : Nat) : Int) by omega, show (X : Int) - (Y : Int) = ((X - Y : Nat) : Int) by omega]
            refine w_iadd h (pc := 68) dX5_cost_68 ?_
            exact w_iret h (pc := 69) (ty := .int) rfl rfl dX5_cost_69 (Nat.le_of_ble_eq_true rfl) (Nat.le_of_ble_eq_true rfl) ⟨by rw [hr]; rfl, rfl⟩
          · refine w_iload_n h (pc := 24) dX5_cost_24 rfl ?_
            refine w_ldc h (pc := 25) (z := 1000000) dX5_cost_25 wm_345 (by decide) ?_
            refine w_iload_n h (pc := 27) dX5_cost_27 rfl ?_
            refine w_iconst h (pc := 28) dX5_cost_28 ?_
            refine w_iadd h (pc := 29) dX5_cost_29 ?_
            refine w_ishr h (pc := 30) (z := (Y : Int)) dX5_cost_30 ((shr_u (j := h9 + 1) (by omega)).trans (by rw [hY])) ?_
            refine w_icmp_gt h (pc := 31) (tgt := 40) dX5_cost_31 (by decide) (by omega) (by omega) (fun c31 => ?_) (fun c31 => ?_)
            · have hst : hv p 19 0 = h9 := by rw [← heq]; exact hv_stop (by rw [← hY]; omega) _
              have hr : co p = 1024 * h9 + 1024 * (X - p) / (X - Y) := by unfold co; rw [if_neg (by omega), if_neg (by omega), hst, hX, hY]
              refine w_ldc h (pc := 40) (z := 1000000) dX5_cost_40 wm_345 (by decide) ?_
              refine w_iload_n h (pc := 42) dX5_cost_42 rfl ?_
              refine w_ishr h (pc := 43) (z := (X : Int)) dX5_cost_43 ((shr_u (j := h9) (by omega)).trans (by rw [hX])) ?_
              refine w_istore_n h (pc := 44) dX5_cost_44 (by decide) ?_
              refine w_ldc h (pc := 45) (z := 1000000) dX5_cost_45 wm_345 (by decide) ?_
              refine w_iload_n h (pc := 47) dX5_cost_47 rfl ?_
              refine w_iconst h (pc := 48) dX5_cost_48 ?_
              refine w_iadd h (pc := 49) dX5_cost_49 ?_
              refine w_ishr h (pc := 50) (z := (Y : Int)) dX5_cost_50 ((shr_u (j := h9 + 1) (by omega)).trans (by rw [hY])) ?_
              refine w_istore_n h (pc := 51) dX5_cost_51 (by decide) ?_
              refine w_sipush h (pc := 52) dX5_cost_52 (by decide) ?_
              refine w_iload_n h (pc := 55) dX5_cost_55 rfl ?_
              refine w_imul h (pc := 56) dX5_cost_56 ?_
              refine w_sipush h (pc := 57) dX5_cost_57 (by decide) ?_
              refine w_iload_n h (pc := 60) dX5_cost_60 rfl ?_
              refine w_iload_n h (pc := 61) dX5_cost_61 rfl ?_
              refine w_isub h (pc := 62) dX5_cost_62 ?_
              refine w_imul h (pc := 63) dX5_cost_63 ?_
              refine w_iload_n h (pc := 64) dX5_cost_64 rfl ?_
              refine w_iload_n h (pc := 65) dX5_cost_65 rfl ?_
              refine w_isub h (pc := 66) dX5_cost_66 ?_
              refine w_idiv h (pc := 67) dX5_cost_67 (by omega) (by omega) ?_
              rw [show (X : Int) - (p : Int) = ((X - p : Nat) : Int) by omega, show (X : Int) - (Y : Int) = ((X - Y : Nat) : Int) by omega]
              refine w_iadd h (pc := 68) dX5_cost_68 ?_
              exact w_iret h (pc := 69) (ty := .int) rfl rfl dX5_cost_69 (Nat.le_of_ble_eq_true rfl) (Nat.le_of_ble_eq_true rfl) ⟨by rw [hr]; rfl, rfl⟩
            · refine w_iinc h (pc := 34) dX5_cost_34 rfl (by decide) ?_
              refine w_goto h (pc := 37) (tgt := 18) dX5_cost_37 (by decide) ?_
              exact WW.sub (by rfl) (ih (h9 + 1) (by omega) (by omega) (by rw [← heq, show 19 - h9 = (19 - (h9 + 1)) + 1 by omega]; symm; show hv p (19 - (h9 + 1) + 1) h9 = _; rw [hv, if_pos ⟨by omega, by rw [← hY]; omega⟩]) (by rw [← hY]; omega))
      exact WW.sub (by rfl) (lp18 20 0 (by omega) (by omega) rfl (by omega))
    · have hr : co p = 0 := by unfold co; rw [if_neg (by omega), if_pos (by omega)]
      refine w_iconst h (pc := 14) dX5_cost_14 ?_
      exact w_iret h (pc := 15) (ty := .int) rfl rfl dX5_cost_15 (Nat.le_of_ble_eq_true rfl) (Nat.le_of_ble_eq_true rfl) ⟨by rw [hr]; rfl, rfl⟩
  · have hr : co p = 32768 := by unfold co; rw [if_pos (by omega)]
    refine w_ldcw h (pc := 4) (z := 32768) dX5_cost_4 wm_344 (by decide) ?_
    exact w_iret h (pc := 7) (ty := .int) rfl rfl dX5_cost_7 (Nat.le_of_ble_eq_true rfl) (Nat.le_of_ble_eq_true rfl) ⟨by rw [hr]; rfl, rfl⟩

set_option maxHeartbeats 4000000 in
set_option maxRecDepth 100000 in
theorem mX5_reckonBehindSentence (l : Launch) (D : va_G) (κ a : Nat → Nat) (ε : Nat) (V N way num m : Nat) (S : List Nat) (T : Nat → List (Nat × Nat)) (u : US) (hA : AB V N way num m S T u) : Ct (W0 κ a) l D κ ε yX5_reckonBehindSentence cX5_reckonBehindSentence 1 none 4 96 0 0 u [.ref (a 0)] (fun v u' => v = none ∧ Fr [8, 9] [9, 10] u u' ∧ ∀ w, w ≤ V → u'.2 9 w = (chz V N way num S T (S.length : Int) w : Int)) := by
  obtain ⟨⟨hV, hN, hway, hnum, hm, hSl, hSV⟩, eV, eN, ew, en, ⟨eS, hS⟩, hT⟩ := id hA
  refine Ct.of (own := RX5) rfl (by decide +kernel) (Nat.le_of_ble_eq_true rfl) rfl (fun Γ h => ?_)
  refine w_aload_n h (pc := 0) dX5_reckonBehindSentence_0 rfl ?_
  refine g0_reckoner h (pc := 1) wm_20 dX5_reckonBehindSentence_1 ?_
  refine w_aload_n h (pc := 4) dX5_reckonBehindSentence_4 rfl ?_
  refine g0_ledger h (pc := 5) wm_16 dX5_reckonBehindSentence_5 ?_
  refine g1_order h (pc := 8) eN wm_140 dX5_reckonBehindSentence_8 ?_
  refine w_aload_n h (pc := 11) dX5_reckonBehindSentence_11 rfl ?_
  refine w_aload_n h (pc := 12) dX5_reckonBehindSentence_12 rfl ?_
  refine g0_length h (pc := 13) eS wm_33 dX5_reckonBehindSentence_13 ?_
  refine w_iconst h (pc := 16) dX5_reckonBehindSentence_16 ?_
  refine w_isub h (pc := 17) dX5_reckonBehindSentence_17 ?_
  refine w_aload_n h (pc := 18) dX5_reckonBehindSentence_18 rfl ?_
  refine g0_ledger h (pc := 19) wm_16 dX5_reckonBehindSentence_19 ?_
  refine g1_order h (pc := 22) eN wm_140 dX5_reckonBehindSentence_22 ?_
  refine w_iconst h (pc := 25) dX5_reckonBehindSentence_25 ?_
  refine w_isub h (pc := 26) dX5_reckonBehindSentence_26 ?_
  rw [show ((N : Int) - 1) = ((N - 1 : Nat) : Int) by omega]
  refine w_callV2 h (pc := 27) (mX5_keyUpTo l D κ a ε V N way num m S T u hA ((S.length : Int) - 1) (by omega) (N - 1) (by omega)) 0 rfl rfl (gdV wm_170 wm_171 wm_172 wm_2 wm_173) (by decide +kernel) ⟨(Nat.le_of_ble_eq_true rfl), (Nat.le_of_ble_eq_true rfl)⟩ ⟨(Nat.le_of_ble_eq_true rfl), (Nat.le_of_ble_eq_true rfl)⟩ (fun _ _ _ => ⟨rfl, rfl⟩) (Nat.le_of_ble_eq_true rfl) dX5_reckonBehindSentence_27 (fun v1 u1 hp1 => ?_)
  obtain ⟨rfl, e1⟩ := hp1
  obtain rfl := e1.symm
  simp only [Option.toList_some, List.cons_append, List.nil_append]
  refine w_callV2 h (pc := 30) (mX1_reckon l D κ a ε V m N way num u T hV (by omega) hN hway hnum hT eV eN ew en N (by omega) (ky V S ((S.length : Int) - 1) (N - 1)) (ky_4 hV hSV (by omega) _)) 2 rfl rfl (gdV wm_302 wm_303 wm_304 wm_19 wm_305) (by decide +kernel) ⟨(Nat.le_of_ble_eq_true rfl), (Nat.le_of_ble_eq_true rfl)⟩ ⟨(Nat.le_of_ble_eq_true rfl), (Nat.le_of_ble_eq_true rfl)⟩ (fun _ _ _ => ⟨rfl, rfl⟩) (Nat.le_of_ble_eq_true rfl) dX5_reckonBehindSentence_30 (fun v2 u2 hp2 => ?_)
  obtain ⟨rfl, hF, hc⟩ := hp2
  simp only [Option.toList_none, List.nil_append]
  exact w_vret h (pc := 33) rfl dX5_reckonBehindSentence_33 (Nat.le_of_ble_eq_true rfl) (Nat.le_of_ble_eq_true rfl) ⟨rfl, hF, hc⟩

set_option maxHeartbeats 4000000 in
set_option maxRecDepth 100000 in
theorem mX5_sumOfCosts (l : Launch) (D : va_G) (κ a : Nat → Nat) (ε : Nat) (V N way num m : Nat) (S : List Nat) (T : Nat → List (Nat × Nat)) (u : US) (hA : AB V N way num m S T u) : Ct (W0 κ a) l D κ ε yX5_sumOfCosts cX5_sumOfCosts 4 (some .int) 4 96 0 0 u [.ref (a 0)] (fun v u' => v = some (.int (iI (scr V N way num S T : Int))) ∧ Fr [8, 9] [9, 10] u u') := by
  obtain ⟨⟨hV, hN, hway, hnum, hm, hSl, hSV⟩, eV, eN, ew, en, ⟨eS, hS⟩, hT⟩ := id hA
  refine Ct.of (own := RX5) rfl (by decide +kernel) (Nat.le_of_ble_eq_true rfl) rfl (fun Γ h => ?_)
  refine w_iconst h (pc := 0) dX5_sumOfCosts_0 ?_
  refine w_istore_n h (pc := 1) dX5_sumOfCosts_1 (by decide) ?_
  refine w_iconst h (pc := 2) dX5_sumOfCosts_2 ?_
  refine w_istore_n h (pc := 3) dX5_sumOfCosts_3 (by decide) ?_
  have lp4 : ∀ (n9 j : Nat) (w : US), S.length + 1 < j + n9 → j ≤ S.length + 1 → Fr [8, 9] [9, 10] u w → WW Γ 4 w 4 [(0, .ref (a 0)), (1, .int (iI (sm (cz V N way num S T) j : Int))), (2, .int (iI (j : Int)))] [] := by
    intro n9
    induction n9 with
    | zero => intro j w hn9 hj hF; exfalso; omega
    | succ n9 ih =>
      intro j w hn9 hj hF
      have hAw := hA.of hF (by simp [tS]) (by simp [tG]) (by simp) (by simp)
      obtain ⟨-, eVw, eNw, eww, enw, ⟨eSw, hSw⟩, hTw⟩ := id hAw
      have hsm := scr_le (V := V) (N := N) (way := way) (num := num) (S := S) (T := T) j
      refine w_iload_n h (pc := 4) dX5_sumOfCosts_4 rfl ?_
      refine w_aload_n h (pc := 5) dX5_sumOfCosts_5 rfl ?_
      refine g0_length h (pc := 6) eSw wm_33 dX5_sumOfCosts_6 ?_
      refine w_icmp_gt h (pc := 9) (tgt := 81) dX5_sumOfCosts_9 (by decide) (by omega) (by omega) (fun c9 => ?_) (fun c9 => ?_)
      · have e : j = S.length + 1 := by omega
        refine w_iload_n h (pc := 81) dX5_sumOfCosts_81 rfl ?_
        exact w_iret h (pc := 82) (ty := .int) rfl rfl dX5_sumOfCosts_82 (Nat.le_of_ble_eq_true rfl) (Nat.le_of_ble_eq_true rfl) ⟨by rw [e]; rfl, hF⟩
      · refine w_aload_n h (pc := 12) dX5_sumOfCosts_12 rfl ?_
        refine g0_reckoner h (pc := 13) wm_20 dX5_sumOfCosts_13 ?_
        refine w_aload_n h (pc := 16) dX5_sumOfCosts_16 rfl ?_
        refine g0_ledger h (pc := 17) wm_16 dX5_sumOfCosts_17 ?_
        refine g1_order h (pc := 20) eNw wm_140 dX5_sumOfCosts_20 ?_
        refine w_aload_n h (pc := 23) dX5_sumOfCosts_23 rfl ?_
        refine w_iload_n h (pc := 24) dX5_sumOfCosts_24 rfl ?_
        refine w_iconst h (pc := 25) dX5_sumOfCosts_25 ?_
        refine w_isub h (pc := 26) dX5_sumOfCosts_26 ?_
        refine w_aload_n h (pc := 27) dX5_sumOfCosts_27 rfl ?_
        refine g0_ledger h (pc := 28) wm_16 dX5_sumOfCosts_28 ?_
        refine g1_order h (pc := 31) eNw wm_140 dX5_sumOfCosts_31 ?_
        refine w_iconst h (pc := 34) dX5_sumOfCosts_34 ?_
        refine w_isub h (pc := 35) dX5_sumOfCosts_35 ?_
        rw [show ((N : Int) - 1) = ((N - 1 : Nat) : Int) by omega]
        refine w_callV2 h (pc := 36) (mX5_keyUpTo l D κ a ε V N way num m S T w hAw ((j : Int) - 1) (by omega) (N - 1) (by omega)) 0 rfl rfl (gdV wm_170 wm_171 wm_172 wm_2 wm_173) (by decide +kernel) ⟨(Nat.le_of_ble_eq_true rfl), (Nat.le_of_ble_eq_true rfl)⟩ ⟨(Nat.le_of_ble_eq_true rfl), (Nat.le_of_ble_eq_true rfl)⟩ (fun _ _ _ => ⟨rfl, rfl⟩) (Nat.le_of_ble_eq_true rfl) dX5_sumOfCosts_36 (fun v1 u1 hp1 => ?_)
        obtain ⟨rfl, e1⟩ := hp1
        obtain rfl := e1.symm
        simp only [Option.toList_some, List.cons_append, List.nil_append]
        refine w_callV2 h (pc := 39) (mX1_reckon l D κ a ε V m N way num w T hV (by omega) hN hway hnum hTw eVw eNw eww enw N (by omega) (ky V S ((j : Int) - 1) (N - 1)) (ky_4 hV hSV (by omega) _)) 2 rfl rfl (gdV wm_302 wm_303 wm_304 wm_19 wm_305) (by decide +kernel) ⟨(Nat.le_of_ble_eq_true rfl), (Nat.le_of_ble_eq_true rfl)⟩ ⟨(Nat.le_of_ble_eq_true rfl), (Nat.le_of_ble_eq_true rfl)⟩ (fun _ _ _ => ⟨rfl, rfl⟩) (Nat.le_of_ble_eq_true rfl) dX5_sumOfCosts_39 (fun v2 u2 hp2 => ?_)
        obtain ⟨rfl, hF2, hc2⟩ := hp2
        simp only [Option.toList_none, List.nil_append]
        refine w_aload_n h (pc := 42) dX5_sumOfCosts_42 rfl ?_
        refine w_iload_n h (pc := 43) dX5_sumOfCosts_43 rfl ?_
        refine w_callV1 h (pc := 44) (mX5_digitAt l D κ a ε V N way num m S T u2 (hAw.of hF2 (by simp [tS]) (by simp [tG]) (by simp) (by simp)) (j : Int) (by omega)) 0 rfl rfl (gdV wm_174 wm_175 wm_176 wm_2 wm_177) (by decide +kernel) ⟨(Nat.le_of_ble_eq_true rfl), (Nat.le_of_ble_eq_true rfl)⟩ ⟨(Nat.le_of_ble_eq_true rfl), (Nat.le_of_ble_eq_true rfl)⟩ (fun _ _ _ => ⟨rfl, rfl⟩) (Nat.le_of_ble_eq_true rfl) dX5_sumOfCosts_44 (fun v3 u3 hp3 => ?_)
        obtain ⟨rfl, e3⟩ := hp3
        obtain rfl := e3.symm
        simp only [Option.toList_some, List.cons_append, List.nil_append]
        refine w_iconst h (pc := 47) dX5_sumOfCosts_47 ?_
        refine w_isub h (pc := 48) dX5_sumOfCosts_48 ?_
        have hdp := dg_pos (V := V) (S := S) (z := (j : Int)) (by omega)
        have hdl := dg_le hSV (j : Int)
        rw [show ((dg V S (j : Int) : Int) - 1) = ((dg V S (j : Int) - 1 : Nat) : Int) by omega]
        have hpl := chz_le (V := V) (N := N) (way := way) (num := num) (S := S) (T := T) hnum hN.1 (j : Int) (w := dg V S (j : Int) - 1) (by omega)
        refine w_istore_n h (pc := 49) dX5_sumOfCosts_49 (by decide) ?_
        refine w_iload_n h (pc := 50) dX5_sumOfCosts_50 rfl ?_
        refine w_if_lt h (pc := 51) (tgt := 75) dX5_sumOfCosts_51 (by decide) (by omega) (fun c51 => by exfalso; omega) (fun c51 => ?_)
        refine w_iload_n h (pc := 54) dX5_sumOfCosts_54 rfl ?_
        refine w_bipush h (pc := 55) dX5_sumOfCosts_55 (by decide) ?_
        refine w_icmp_gt h (pc := 57) (tgt := 75) dX5_sumOfCosts_57 (by decide) (by omega) (by omega) (fun c57 => by exfalso; omega) (fun c57 => ?_)
        refine w_iload_n h (pc := 60) dX5_sumOfCosts_60 rfl ?_
        refine w_aload_n h (pc := 61) dX5_sumOfCosts_61 rfl ?_
        refine g0_reckoner h (pc := 62) wm_20 dX5_sumOfCosts_62 ?_
        refine g2_chances h (pc := 65) wm_297 dX5_sumOfCosts_65 ?_
        refine w_iload_n h (pc := 68) dX5_sumOfCosts_68 rfl ?_
        refine ld_chances h (pc := 69) (by omega) (hc2 (dg V S (j : Int) - 1) (by omega)) dX5_sumOfCosts_69 ?_
        refine w_callS1 h (pc := 70) (mX5_cost l D κ a ε u2 (chz V N way num S T (j : Int) (dg V S (j : Int) - 1)) hpl) (gdS wm_341 wm_342 wm_2 wm_343) (by decide +kernel) ⟨(Nat.le_of_ble_eq_true rfl), (Nat.le_of_ble_eq_true rfl)⟩ ⟨(Nat.le_of_ble_eq_true rfl), (Nat.le_of_ble_eq_true rfl)⟩ (fun _ _ _ => ⟨rfl, rfl⟩) (Nat.le_of_ble_eq_true rfl) dX5_sumOfCosts_70 (fun v4 u4 hp4 => ?_)
        obtain ⟨rfl, e4⟩ := hp4
        obtain rfl := e4.symm
        simp only [Option.toList_some, List.cons_append, List.nil_append]
        refine w_iadd h (pc := 73) dX5_sumOfCosts_73 ?_
        refine w_istore_n h (pc := 74) dX5_sumOfCosts_74 (by decide) ?_
        refine w_iinc h (pc := 75) dX5_sumOfCosts_75 rfl (by decide) ?_
        refine w_goto h (pc := 78) (tgt := 4) dX5_sumOfCosts_78 (by decide) ?_
        exact WW.sub (by rfl) (ih (j + 1) _ (by omega) (by omega) (hF.tr hF2))
  exact WW.sub (by rfl) (lp4 (S.length + 2) 0 u (by omega) (by omega) Fr.rfl)
end
section
/-- the keys of order n at the first j places -/
def kys (V : Nat) (S : List Nat) (n j : Nat) : List Nat := (List.range j).map (fun p : Nat => ky V S (p : Int) n)
theorem kys_s (V : Nat) (S : List Nat) (n j : Nat) : kys V S n (j + 1) = kys V S n j ++ [ky V S (j : Int) n] := by
  unfold kys
  rw [List.range_succ, List.map_append]
  rfl
theorem kys_len (V : Nat) (S : List Nat) (n j : Nat) : (kys V S n j).length = j := by
  unfold kys
  rw [List.length_map, List.length_range]
theorem rsA_s (t : Nat) : ∀ (ks : List Nat) (l : List (Nat × Nat)) (k : Nat), rsA l t (ks ++ [k]) = rs (rsA l t ks) k t
  | [], _, _ => rfl
  | z :: ks, l, k => rsA_s t ks (rs l z t) k
theorem lwA_s (t : Nat) : ∀ (ks : List Nat) (l : List (Nat × Nat)) (k : Nat), lwA l t (ks ++ [k]) = lw (lwA l t ks) k t
  | [], _, _ => rfl
  | z :: ks, l, k => lwA_s t ks (lw l z t) k
theorem oc_s (k : Nat) : ∀ (ks : List Nat) (z : Nat), oc k (ks ++ [z]) = oc k ks + (if z = k then 1 else 0)
  | [], z => by show (if z = k then 1 else 0) + 0 = 0 + _; omega
  | y :: ks, z => by
    show (if y = k then 1 else 0) + oc k (ks ++ [z]) = (if y = k then 1 else 0) + oc k ks + _
    rw [oc_s k ks z]
    omega
/-- the counted tallies behind an adding of the sentence, orders done and places done of the next -/
def adT (V : Nat) (S : List Nat) (T : Nat → List (Nat × Nat)) (c o p i : Nat) : List (Nat × Nat) := if i < o then rsA (T i) c (kys V S (i + 1) (S.length + 1)) else if i = o then rsA (T i) c (kys V S (i + 1) p) else T i
def lwT (V : Nat) (S : List Nat) (T : Nat → List (Nat × Nat)) (c o p i : Nat) : List (Nat × Nat) := if i < o then lwA (T i) c (kys V S (i + 1) (S.length + 1)) else if i = o then lwA (T i) c (kys V S (i + 1) p) else T i
theorem adT_0 (V : Nat) (S : List Nat) (T : Nat → List (Nat × Nat)) (c i : Nat) : adT V S T c 0 0 i = T i := by
  unfold adT
  rw [if_neg (Nat.not_lt_zero i)]
  split <;> rfl
theorem lwT_0 (V : Nat) (S : List Nat) (T : Nat → List (Nat × Nat)) (c i : Nat) : lwT V S T c 0 0 i = T i := by
  unfold lwT
  rw [if_neg (Nat.not_lt_zero i)]
  split <;> rfl
theorem adT_next (V : Nat) (S : List Nat) (T : Nat → List (Nat × Nat)) (c o i : Nat) : adT V S T c o (S.length + 1) i = adT V S T c (o + 1) 0 i := by
  unfold adT
  by_cases h1 : i < o
  · rw [if_pos h1, if_pos (by omega)]
  · rw [if_neg h1]
    by_cases h2 : i = o
    · rw [if_pos h2, if_pos (by omega)]
    · rw [if_neg h2, if_neg (by omega)]
      split <;> rfl
theorem lwT_next (V : Nat) (S : List Nat) (T : Nat → List (Nat × Nat)) (c o i : Nat) : lwT V S T c o (S.length + 1) i = lwT V S T c (o + 1) 0 i := by
  unfold lwT
  by_cases h1 : i < o
  · rw [if_pos h1, if_pos (by omega)]
  · rw [if_neg h1]
    by_cases h2 : i = o
    · rw [if_pos h2, if_pos (by omega)]
    · rw [if_neg h2, if_neg (by omega)]
      split <;> rfl
theorem adT_step (V : Nat) (S : List Nat) (T : Nat → List (Nat × Nat)) (c o p i : Nat) : (if i + 1 = o + 1 then rs (adT V S T c o p i) (ky V S (p : Int) (o + 1)) c else adT V S T c o p i) = adT V S T c o (p + 1) i := by
  unfold adT
  by_cases h1 : i < o
  · rw [if_neg (by omega), if_pos h1, if_pos h1]
  · by_cases h2 : i = o
    · subst h2
      rw [if_pos rfl, if_neg h1, if_pos rfl, if_neg h1, if_pos rfl, kys_s, rsA_s]
    · rw [if_neg (by omega), if_neg h1, if_neg h2, if_neg h1, if_neg h2]
theorem lwT_step (V : Nat) (S : List Nat) (T : Nat → List (Nat × Nat)) (c o p i : Nat) : (if i + 1 = o + 1 then lw (lwT V S T c o p i) (ky V S (p : Int) (o + 1)) c else lwT V S T c o p i) = lwT V S T c o (p + 1) i := by
  unfold lwT
  by_cases h1 : i < o
  · rw [if_neg (by omega), if_pos h1, if_pos h1]
  · by_cases h2 : i = o
    · subst h2
      rw [if_pos rfl, if_neg h1, if_pos rfl, if_neg h1, if_pos rfl, kys_s, lwA_s]
    · rw [if_neg (by omega), if_neg h1, if_neg h2, if_neg h1, if_neg h2]
theorem AB.setT {V N way num m m' : Nat} {S : List Nat} {T T' : Nat → List (Nat × Nat)} {u u' : US} (h : AB V N way num m S T u) (hF : Fr tS tG u u') (hT : TA V m' u' T') (hm : m' ≤ 700) : AB V N way num m' S T' u' := by
  obtain ⟨⟨b1, b2, b3, b4, b5, b6⟩, a2, a3, a4, a5, ⟨a6, a7⟩, a8⟩ := h
  refine ⟨⟨b1, b2, b3, b4, hm, b6⟩, (hF.1 4 (by simp [tS])).trans a2, (hF.1 5 (by simp [tS])).trans a3, (hF.1 6 (by simp [tS])).trans a4, (hF.1 7 (by simp [tS])).trans a5, ⟨(hF.1 0 (by simp [tS])).trans a6, fun j w hw => ?_⟩, hT⟩
  rw [hF.2 6 (by simp [tG])]
  exact a7 j w hw
/-- the last of a sorted row is taken out -/
theorem del_last : ∀ {l : List (Nat × Nat)} {b : Nat × Nat}, (∀ z ∈ l, z.1 < b.1) → del (l ++ [b]) b.1 = l
  | [], b, _ => by show (if b.1 = b.1 then [] else _) = _; rw [if_pos rfl]
  | a :: l, b, h => by
    show (if a.1 = b.1 then _ else a :: del (l ++ [b]) b.1) = _
    have := h a List.mem_cons_self
    rw [if_neg (by omega), del_last fun z hz => h z (List.mem_cons_of_mem _ hz)]
theorem del_take {l : List (Nat × Nat)} {j : Nat} {b : Nat × Nat} (hs : So l) (hb : l[j]? = some b) : del (l.take (j + 1)) b.1 = l.take j := by
  rw [List.take_succ, hb]
  refine del_last fun z hz => ?_
  obtain ⟨i, hi⟩ := List.getElem?_of_mem hz
  rw [List.getElem?_take] at hi
  split at hi
  · rename_i q
    obtain ⟨h1, e1⟩ := List.getElem?_eq_some_iff.mp hi
    obtain ⟨h2, e2⟩ := List.getElem?_eq_some_iff.mp hb
    have := So_lt hs q h2
    rw [e1, e2] at this
    exact this
  · cases hi
theorem ab_app {V N way num m : Nat} {S : List Nat} {T : Nat → List (Nat × Nat)} {u : US} (hA : AB V N way num m S T u) {w : Nat} (hw : w < V) (hl : S.length < 12) : AB V N way num m (S ++ [w]) T (uS (uA u 6 (upI (u.2 6) ((S.length : Int)).toNat (w : Int))) 0 ((S.length : Int) + 1)) := by
  obtain ⟨⟨hV, hN, hway, hnum, hm, hSl, hSV⟩, eV, eN, ew, en, ⟨eS, hS⟩, hT⟩ := hA
  refine ⟨⟨hV, hN, hway, hnum, hm, by rw [List.length_append]; exact hl, fun z hz => ?_⟩, eV, eN, ew, en, ⟨by rw [uS_at, List.length_append]; rfl, fun j z hz => ?_⟩, ?_⟩
  · rcases List.mem_append.mp hz with h | h
    · exact hSV z h
    · rw [List.mem_singleton.mp h]; exact hw
  · rw [uS_2, uA_at]
    unfold upI
    rw [Int.toNat_natCast]
    by_cases e : j = S.length
    · subst e
      rw [List.getElem?_append_right (Nat.le_refl _), Nat.sub_self] at hz
      cases hz
      exact if_pos rfl
    · rw [if_neg e]
      have hj : j < S.length := by
        have := (List.getElem?_eq_some_iff.mp hz).1
        rw [List.length_append] at this
        have : ([w] : List Nat).length = 1 := rfl
        omega
      rw [List.getElem?_append_left hj] at hz
      exact hS j z hz
  · exact hT.of ((Fr.A (ls := [0]) (gs := [6]) (by simp)).tr (Fr.S (by simp))) (by simp [tS]) (by simp [tG])
end
section
theorem dX5_addSentence_0 : decode cX5_addSentence 0 = .ok (.iconst 1, 1) := by decide +kernel
theorem dX5_addSentence_1 : decode cX5_addSentence 1 = .ok (.istore_n 2, 1) := by decide +kernel
theorem dX5_addSentence_2 : decode cX5_addSentence 2 = .ok (.iload_n 2, 1) := by decide +kernel
theorem dX5_addSentence_3 : decode cX5_addSentence 3 = .ok (.aload_n 0, 1) := by decide +kernel
theorem dX5_addSentence_4 : decode cX5_addSentence 4 = .ok (.getfield 10, 3) := by decide +kernel
theorem dX5_addSentence_7 : decode cX5_addSentence 7 = .ok (.getfield 83, 3) := by decide +kernel
theorem dX5_addSentence_10 : decode cX5_addSentence 10 = .ok (.if_icmp .gt 40, 3) := by decide +kernel
theorem dX5_addSentence_13 : decode cX5_addSentence 13 = .ok (.iconst 0, 1) := by decide +kernel
theorem dX5_addSentence_14 : decode cX5_addSentence 14 = .ok (.istore_n 3, 1) := by decide +kernel
theorem dX5_addSentence_15 : decode cX5_addSentence 15 = .ok (.iload_n 3, 1) := by decide +kernel
theorem dX5_addSentence_16 : decode cX5_addSentence 16 = .ok (.aload_n 0, 1) := by decide +kernel
theorem dX5_addSentence_17 : decode cX5_addSentence 17 = .ok (.getfield 51, 3) := by decide +kernel
theorem dX5_addSentence_20 : decode cX5_addSentence 20 = .ok (.if_icmp .gt 24, 3) := by decide +kernel
theorem dX5_addSentence_23 : decode cX5_addSentence 23 = .ok (.aload_n 0, 1) := by decide +kernel
theorem dX5_addSentence_24 : decode cX5_addSentence 24 = .ok (.getfield 10, 3) := by decide +kernel
theorem dX5_addSentence_27 : decode cX5_addSentence 27 = .ok (.iload_n 2, 1) := by decide +kernel
theorem dX5_addSentence_28 : decode cX5_addSentence 28 = .ok (.aload_n 0, 1) := by decide +kernel
theorem dX5_addSentence_29 : decode cX5_addSentence 29 = .ok (.iload_n 3, 1) := by decide +kernel
theorem dX5_addSentence_30 : decode cX5_addSentence 30 = .ok (.iload_n 2, 1) := by decide +kernel
theorem dX5_addSentence_31 : decode cX5_addSentence 31 = .ok (.invokevirtual 202, 3) := by decide +kernel
theorem dX5_addSentence_34 : decode cX5_addSentence 34 = .ok (.iload_n 1, 1) := by decide +kernel
theorem dX5_addSentence_35 : decode cX5_addSentence 35 = .ok (.invokevirtual 270, 3) := by decide +kernel
theorem dX5_addSentence_38 : decode cX5_addSentence 38 = .ok (.iinc 3 1, 3) := by decide +kernel
theorem dX5_addSentence_41 : decode cX5_addSentence 41 = .ok (.goto (-26), 3) := by decide +kernel
theorem dX5_addSentence_44 : decode cX5_addSentence 44 = .ok (.iinc 2 1, 3) := by decide +kernel
theorem dX5_addSentence_47 : decode cX5_addSentence 47 = .ok (.goto (-45), 3) := by decide +kernel
theorem dX5_addSentence_50 : decode cX5_addSentence 50 = .ok (.return_, 1) := by decide +kernel
theorem dX5_append_0 : decode cX5_append 0 = .ok (.aload_n 0, 1) := by decide +kernel
theorem dX5_append_1 : decode cX5_append 1 = .ok (.getfield 51, 3) := by decide +kernel
theorem dX5_append_4 : decode cX5_append 4 = .ok (.bipush 12, 2) := by decide +kernel
theorem dX5_append_6 : decode cX5_append 6 = .ok (.if_icmp .ge 23, 3) := by decide +kernel
theorem dX5_append_9 : decode cX5_append 9 = .ok (.aload_n 0, 1) := by decide +kernel
theorem dX5_append_10 : decode cX5_append 10 = .ok (.getfield 47, 3) := by decide +kernel
theorem dX5_append_13 : decode cX5_append 13 = .ok (.aload_n 0, 1) := by decide +kernel
theorem dX5_append_14 : decode cX5_append 14 = .ok (.getfield 51, 3) := by decide +kernel
theorem dX5_append_17 : decode cX5_append 17 = .ok (.iload_n 1, 1) := by decide +kernel
theorem dX5_append_18 : decode cX5_append 18 = .ok (.iastore, 1) := by decide +kernel
theorem dX5_append_19 : decode cX5_append 19 = .ok (.aload_n 0, 1) := by decide +kernel
theorem dX5_append_20 : decode cX5_append 20 = .ok (.dup, 1) := by decide +kernel
theorem dX5_append_21 : decode cX5_append 21 = .ok (.getfield 51, 3) := by decide +kernel
theorem dX5_append_24 : decode cX5_append 24 = .ok (.iconst 1, 1) := by decide +kernel
theorem dX5_append_25 : decode cX5_append 25 = .ok (.iadd, 1) := by decide +kernel
theorem dX5_append_26 : decode cX5_append 26 = .ok (.putfield 51, 3) := by decide +kernel
theorem dX5_append_29 : decode cX5_append 29 = .ok (.return_, 1) := by decide +kernel
theorem dX5_canTakeSentence_0 : decode cX5_canTakeSentence 0 = .ok (.iconst 1, 1) := by decide +kernel
theorem dX5_canTakeSentence_1 : decode cX5_canTakeSentence 1 = .ok (.istore_n 1, 1) := by decide +kernel
theorem dX5_canTakeSentence_2 : decode cX5_canTakeSentence 2 = .ok (.iload_n 1, 1) := by decide +kernel
theorem dX5_canTakeSentence_3 : decode cX5_canTakeSentence 3 = .ok (.aload_n 0, 1) := by decide +kernel
theorem dX5_canTakeSentence_4 : decode cX5_canTakeSentence 4 = .ok (.getfield 10, 3) := by decide +kernel
theorem dX5_canTakeSentence_7 : decode cX5_canTakeSentence 7 = .ok (.getfield 83, 3) := by decide +kernel
theorem dX5_canTakeSentence_10 : decode cX5_canTakeSentence 10 = .ok (.if_icmp .gt 55, 3) := by decide +kernel
theorem dX5_canTakeSentence_13 : decode cX5_canTakeSentence 13 = .ok (.iconst 0, 1) := by decide +kernel
theorem dX5_canTakeSentence_14 : decode cX5_canTakeSentence 14 = .ok (.istore_n 2, 1) := by decide +kernel
theorem dX5_canTakeSentence_15 : decode cX5_canTakeSentence 15 = .ok (.iload_n 2, 1) := by decide +kernel
theorem dX5_canTakeSentence_16 : decode cX5_canTakeSentence 16 = .ok (.aload_n 0, 1) := by decide +kernel
theorem dX5_canTakeSentence_17 : decode cX5_canTakeSentence 17 = .ok (.getfield 51, 3) := by decide +kernel
theorem dX5_canTakeSentence_20 : decode cX5_canTakeSentence 20 = .ok (.if_icmp .gt 39, 3) := by decide +kernel
theorem dX5_canTakeSentence_23 : decode cX5_canTakeSentence 23 = .ok (.aload_n 0, 1) := by decide +kernel
theorem dX5_canTakeSentence_24 : decode cX5_canTakeSentence 24 = .ok (.iload_n 2, 1) := by decide +kernel
theorem dX5_canTakeSentence_25 : decode cX5_canTakeSentence 25 = .ok (.iload_n 1, 1) := by decide +kernel
theorem dX5_canTakeSentence_26 : decode cX5_canTakeSentence 26 = .ok (.invokevirtual 202, 3) := by decide +kernel
theorem dX5_canTakeSentence_29 : decode cX5_canTakeSentence 29 = .ok (.istore_n 3, 1) := by decide +kernel
theorem dX5_canTakeSentence_30 : decode cX5_canTakeSentence 30 = .ok (.aload_n 0, 1) := by decide +kernel
theorem dX5_canTakeSentence_31 : decode cX5_canTakeSentence 31 = .ok (.getfield 10, 3) := by decide +kernel
theorem dX5_canTakeSentence_34 : decode cX5_canTakeSentence 34 = .ok (.iload_n 1, 1) := by decide +kernel
theorem dX5_canTakeSentence_35 : decode cX5_canTakeSentence 35 = .ok (.invokevirtual 131, 3) := by decide +kernel
theorem dX5_canTakeSentence_38 : decode cX5_canTakeSentence 38 = .ok (.iload_n 3, 1) := by decide +kernel
theorem dX5_canTakeSentence_39 : decode cX5_canTakeSentence 39 = .ok (.invokevirtual 278, 3) := by decide +kernel
theorem dX5_canTakeSentence_42 : decode cX5_canTakeSentence 42 = .ok (.aload_n 0, 1) := by decide +kernel
theorem dX5_canTakeSentence_43 : decode cX5_canTakeSentence 43 = .ok (.iload_n 3, 1) := by decide +kernel
theorem dX5_canTakeSentence_44 : decode cX5_canTakeSentence 44 = .ok (.iload_n 1, 1) := by decide +kernel
theorem dX5_canTakeSentence_45 : decode cX5_canTakeSentence 45 = .ok (.invokevirtual 281, 3) := by decide +kernel
theorem dX5_canTakeSentence_48 : decode cX5_canTakeSentence 48 = .ok (.if_icmp .ge 5, 3) := by decide +kernel
theorem dX5_canTakeSentence_53 : decode cX5_canTakeSentence 53 = .ok (.iinc 2 1, 3) := by decide +kernel
theorem dX5_canTakeSentence_56 : decode cX5_canTakeSentence 56 = .ok (.goto (-41), 3) := by decide +kernel
theorem dX5_canTakeSentence_59 : decode cX5_canTakeSentence 59 = .ok (.iinc 1 1, 3) := by decide +kernel
theorem dX5_canTakeSentence_62 : decode cX5_canTakeSentence 62 = .ok (.goto (-60), 3) := by decide +kernel
theorem dX5_canTakeSentence_65 : decode cX5_canTakeSentence 65 = .ok (.iconst 1, 1) := by decide +kernel
theorem dX5_canTakeSentence_66 : decode cX5_canTakeSentence 66 = .ok (.ireturn, 1) := by decide +kernel
theorem dX5_isOrder_0 : decode cX5_isOrder 0 = .ok (.iload_n 1, 1) := by decide +kernel
theorem dX5_isOrder_1 : decode cX5_isOrder 1 = .ok (.iconst 1, 1) := by decide +kernel
theorem dX5_isOrder_2 : decode cX5_isOrder 2 = .ok (.if_icmp .lt 18, 3) := by decide +kernel
theorem dX5_isOrder_5 : decode cX5_isOrder 5 = .ok (.iload_n 1, 1) := by decide +kernel
theorem dX5_isOrder_6 : decode cX5_isOrder 6 = .ok (.aload_n 0, 1) := by decide +kernel
theorem dX5_isOrder_7 : decode cX5_isOrder 7 = .ok (.getfield 10, 3) := by decide +kernel
theorem dX5_isOrder_10 : decode cX5_isOrder 10 = .ok (.getfield 83, 3) := by decide +kernel
theorem dX5_isOrder_13 : decode cX5_isOrder 13 = .ok (.if_icmp .gt 7, 3) := by decide +kernel
theorem dX5_isOrder_16 : decode cX5_isOrder 16 = .ok (.iconst 1, 1) := by decide +kernel
theorem dX5_isOrder_17 : decode cX5_isOrder 17 = .ok (.goto 4, 3) := by decide +kernel
theorem dX5_isOrder_21 : decode cX5_isOrder 21 = .ok (.ireturn, 1) := by decide +kernel
theorem dX5_isStep_0 : decode cX5_isStep 0 = .ok (.iload_n 1, 1) := by decide +kernel
theorem dX5_isStep_1 : decode cX5_isStep 1 = .ok (.tableswitch 89 0 5 #[39, 39, 41, 72, 47, 72], 39) := by decide +kernel
theorem dX5_isStep_73 : decode cX5_isStep 73 = .ok (.iload_n 2, 1) := by decide +kernel
theorem dX5_isStep_74 : decode cX5_isStep 74 = .ok (.iconst 1, 1) := by decide +kernel
theorem dX5_isStep_75 : decode cX5_isStep 75 = .ok (.if_icmp .lt 13, 3) := by decide +kernel
theorem dX5_isStep_78 : decode cX5_isStep 78 = .ok (.iload_n 2, 1) := by decide +kernel
theorem dX5_isStep_79 : decode cX5_isStep 79 = .ok (.bipush 12, 2) := by decide +kernel
theorem dX5_isStep_81 : decode cX5_isStep 81 = .ok (.if_icmp .gt 7, 3) := by decide +kernel
theorem dX5_isStep_84 : decode cX5_isStep 84 = .ok (.iconst 1, 1) := by decide +kernel
theorem dX5_isStep_85 : decode cX5_isStep 85 = .ok (.goto 4, 3) := by decide +kernel
theorem dX5_isStep_89 : decode cX5_isStep 89 = .ok (.ireturn, 1) := by decide +kernel
theorem dX5_isWay_0 : decode cX5_isWay 0 = .ok (.iload_n 0, 1) := by decide +kernel
theorem dX5_isWay_1 : decode cX5_isWay 1 = .ok (.ifCond .lt 24, 3) := by decide +kernel
theorem dX5_isWay_4 : decode cX5_isWay 4 = .ok (.iload_n 0, 1) := by decide +kernel
theorem dX5_isWay_5 : decode cX5_isWay 5 = .ok (.iconst 4, 1) := by decide +kernel
theorem dX5_isWay_6 : decode cX5_isWay 6 = .ok (.if_icmp .gt 19, 3) := by decide +kernel
theorem dX5_isWay_9 : decode cX5_isWay 9 = .ok (.iload_n 1, 1) := by decide +kernel
theorem dX5_isWay_10 : decode cX5_isWay 10 = .ok (.iconst 1, 1) := by decide +kernel
theorem dX5_isWay_11 : decode cX5_isWay 11 = .ok (.if_icmp .lt 14, 3) := by decide +kernel
theorem dX5_isWay_14 : decode cX5_isWay 14 = .ok (.iload_n 1, 1) := by decide +kernel
theorem dX5_isWay_15 : decode cX5_isWay 15 = .ok (.sipush 1000, 3) := by decide +kernel
theorem dX5_isWay_18 : decode cX5_isWay 18 = .ok (.if_icmp .gt 7, 3) := by decide +kernel
theorem dX5_isWay_21 : decode cX5_isWay 21 = .ok (.iconst 1, 1) := by decide +kernel
theorem dX5_isWay_22 : decode cX5_isWay 22 = .ok (.goto 4, 3) := by decide +kernel
theorem dX5_isWay_26 : decode cX5_isWay 26 = .ok (.ireturn, 1) := by decide +kernel
theorem dX5_isWord_0 : decode cX5_isWord 0 = .ok (.iload_n 1, 1) := by decide +kernel
theorem dX5_isWord_1 : decode cX5_isWord 1 = .ok (.ifCond .lt 18, 3) := by decide +kernel
theorem dX5_isWord_4 : decode cX5_isWord 4 = .ok (.iload_n 1, 1) := by decide +kernel
theorem dX5_isWord_5 : decode cX5_isWord 5 = .ok (.aload_n 0, 1) := by decide +kernel
theorem dX5_isWord_6 : decode cX5_isWord 6 = .ok (.getfield 10, 3) := by decide +kernel
theorem dX5_isWord_9 : decode cX5_isWord 9 = .ok (.getfield 65, 3) := by decide +kernel
theorem dX5_isWord_12 : decode cX5_isWord 12 = .ok (.if_icmp .ge 7, 3) := by decide +kernel
theorem dX5_isWord_15 : decode cX5_isWord 15 = .ok (.iconst 1, 1) := by decide +kernel
theorem dX5_isWord_16 : decode cX5_isWord 16 = .ok (.goto 4, 3) := by decide +kernel
theorem dX5_isWord_20 : decode cX5_isWord 20 = .ok (.ireturn, 1) := by decide +kernel
theorem dX5_takeSentence_0 : decode cX5_takeSentence 0 = .ok (.iconst 0, 1) := by decide +kernel
theorem dX5_takeSentence_1 : decode cX5_takeSentence 1 = .ok (.istore_n 2, 1) := by decide +kernel
theorem dX5_takeSentence_2 : decode cX5_takeSentence 2 = .ok (.iconst 1, 1) := by decide +kernel
theorem dX5_takeSentence_3 : decode cX5_takeSentence 3 = .ok (.istore_n 3, 1) := by decide +kernel
theorem dX5_takeSentence_4 : decode cX5_takeSentence 4 = .ok (.iload_n 3, 1) := by decide +kernel
theorem dX5_takeSentence_5 : decode cX5_takeSentence 5 = .ok (.aload_n 0, 1) := by decide +kernel
theorem dX5_takeSentence_6 : decode cX5_takeSentence 6 = .ok (.getfield 10, 3) := by decide +kernel
theorem dX5_takeSentence_9 : decode cX5_takeSentence 9 = .ok (.getfield 83, 3) := by decide +kernel
theorem dX5_takeSentence_12 : decode cX5_takeSentence 12 = .ok (.if_icmp .gt 49, 3) := by decide +kernel
theorem dX5_takeSentence_15 : decode cX5_takeSentence 15 = .ok (.iconst 0, 1) := by decide +kernel
theorem dX5_takeSentence_16 : decode cX5_takeSentence 16 = .ok (.istore 4, 2) := by decide +kernel
theorem dX5_takeSentence_18 : decode cX5_takeSentence 18 = .ok (.iload 4, 2) := by decide +kernel
theorem dX5_takeSentence_20 : decode cX5_takeSentence 20 = .ok (.aload_n 0, 1) := by decide +kernel
theorem dX5_takeSentence_21 : decode cX5_takeSentence 21 = .ok (.getfield 51, 3) := by decide +kernel
theorem dX5_takeSentence_24 : decode cX5_takeSentence 24 = .ok (.if_icmp .gt 31, 3) := by decide +kernel
theorem dX5_takeSentence_27 : decode cX5_takeSentence 27 = .ok (.aload_n 0, 1) := by decide +kernel
theorem dX5_takeSentence_28 : decode cX5_takeSentence 28 = .ok (.getfield 10, 3) := by decide +kernel
theorem dX5_takeSentence_31 : decode cX5_takeSentence 31 = .ok (.iload_n 3, 1) := by decide +kernel
theorem dX5_takeSentence_32 : decode cX5_takeSentence 32 = .ok (.aload_n 0, 1) := by decide +kernel
theorem dX5_takeSentence_33 : decode cX5_takeSentence 33 = .ok (.iload 4, 2) := by decide +kernel
theorem dX5_takeSentence_35 : decode cX5_takeSentence 35 = .ok (.iload_n 3, 1) := by decide +kernel
theorem dX5_takeSentence_36 : decode cX5_takeSentence 36 = .ok (.invokevirtual 202, 3) := by decide +kernel
theorem dX5_takeSentence_39 : decode cX5_takeSentence 39 = .ok (.iload_n 1, 1) := by decide +kernel
theorem dX5_takeSentence_40 : decode cX5_takeSentence 40 = .ok (.invokevirtual 274, 3) := by decide +kernel
theorem dX5_takeSentence_43 : decode cX5_takeSentence 43 = .ok (.ifCond .eq 6, 3) := by decide +kernel
theorem dX5_takeSentence_46 : decode cX5_takeSentence 46 = .ok (.iinc 2 1, 3) := by decide +kernel
theorem dX5_takeSentence_49 : decode cX5_takeSentence 49 = .ok (.iinc 4 1, 3) := by decide +kernel
theorem dX5_takeSentence_52 : decode cX5_takeSentence 52 = .ok (.goto (-34), 3) := by decide +kernel
theorem dX5_takeSentence_55 : decode cX5_takeSentence 55 = .ok (.iinc 3 1, 3) := by decide +kernel
theorem dX5_takeSentence_58 : decode cX5_takeSentence 58 = .ok (.goto (-54), 3) := by decide +kernel
theorem dX5_takeSentence_61 : decode cX5_takeSentence 61 = .ok (.iload_n 2, 1) := by decide +kernel
theorem dX5_takeSentence_62 : decode cX5_takeSentence 62 = .ok (.ireturn, 1) := by decide +kernel
theorem dX5_timesInSentence_0 : decode cX5_timesInSentence 0 = .ok (.iconst 0, 1) := by decide +kernel
theorem dX5_timesInSentence_1 : decode cX5_timesInSentence 1 = .ok (.istore_n 3, 1) := by decide +kernel
theorem dX5_timesInSentence_2 : decode cX5_timesInSentence 2 = .ok (.iconst 0, 1) := by decide +kernel
theorem dX5_timesInSentence_3 : decode cX5_timesInSentence 3 = .ok (.istore 4, 2) := by decide +kernel
theorem dX5_timesInSentence_5 : decode cX5_timesInSentence 5 = .ok (.iload 4, 2) := by decide +kernel
theorem dX5_timesInSentence_7 : decode cX5_timesInSentence 7 = .ok (.aload_n 0, 1) := by decide +kernel
theorem dX5_timesInSentence_8 : decode cX5_timesInSentence 8 = .ok (.getfield 51, 3) := by decide +kernel
theorem dX5_timesInSentence_11 : decode cX5_timesInSentence 11 = .ok (.if_icmp .gt 23, 3) := by decide +kernel
theorem dX5_timesInSentence_14 : decode cX5_timesInSentence 14 = .ok (.aload_n 0, 1) := by decide +kernel
theorem dX5_timesInSentence_15 : decode cX5_timesInSentence 15 = .ok (.iload 4, 2) := by decide +kernel
theorem dX5_timesInSentence_17 : decode cX5_timesInSentence 17 = .ok (.iload_n 2, 1) := by decide +kernel
theorem dX5_timesInSentence_18 : decode cX5_timesInSentence 18 = .ok (.invokevirtual 202, 3) := by decide +kernel
theorem dX5_timesInSentence_21 : decode cX5_timesInSentence 21 = .ok (.iload_n 1, 1) := by decide +kernel
theorem dX5_timesInSentence_22 : decode cX5_timesInSentence 22 = .ok (.if_icmp .ne 6, 3) := by decide +kernel
theorem dX5_timesInSentence_25 : decode cX5_timesInSentence 25 = .ok (.iinc 3 1, 3) := by decide +kernel
theorem dX5_timesInSentence_28 : decode cX5_timesInSentence 28 = .ok (.iinc 4 1, 3) := by decide +kernel
theorem dX5_timesInSentence_31 : decode cX5_timesInSentence 31 = .ok (.goto (-26), 3) := by decide +kernel
theorem dX5_timesInSentence_34 : decode cX5_timesInSentence 34 = .ok (.iload_n 3, 1) := by decide +kernel
theorem dX5_timesInSentence_35 : decode cX5_timesInSentence 35 = .ok (.ireturn, 1) := by decide +kernel
set_option maxHeartbeats 4000000 in
set_option maxRecDepth 100000 in
theorem mX5_isWord (l : Launch) (D : va_G) (κ a : Nat → Nat) (ε : Nat) (V N way num m : Nat) (S : List Nat) (T : Nat → List (Nat × Nat)) (u : US) (hA : AB V N way num m S T u) (w : Nat) (hw : w < V) : Ct (W0 κ a) l D κ ε yX5_isWord cX5_isWord 2 (some .boolean) 0 0 0 0 u [.ref (a 0), .int (iI (w : Int))] (fun v u' => v = some (.int (iI 1)) ∧ u' = u) := by
  obtain ⟨⟨hV, hN, hway, hnum, hm, hSl, hSV⟩, eV, eN, ew, en, ⟨eS, hS⟩, hT⟩ := id hA
  refine Ct.of (own := RX5) rfl (by decide +kernel) (Nat.le_of_ble_eq_true rfl) rfl (fun Γ h => ?_)
  refine w_iload_n h (pc := 0) dX5_isWord_0 rfl ?_
  refine w_if_lt h (pc := 1) (tgt := 19) dX5_isWord_1 (by decide) (by omega) (fun c1 => by exfalso; omega) (fun c1 => ?_)
  refine w_iload_n h (pc := 4) dX5_isWord_4 rfl ?_
  refine w_aload_n h (pc := 5) dX5_isWord_5 rfl ?_
  refine g0_ledger h (pc := 6) wm_16 dX5_isWord_6 ?_
  refine g1_words h (pc := 9) eV wm_113 dX5_isWord_9 ?_
  refine w_icmp_ge h (pc := 12) (tgt := 19) dX5_isWord_12 (by decide) (by omega) (by omega) (fun c12 => by exfalso; omega) (fun c12 => ?_)
  refine w_iconst h (pc := 15) dX5_isWord_15 ?_
  refine w_goto h (pc := 16) (tgt := 20) dX5_isWord_16 (by decide) ?_
  exact w_iret h (pc := 20) (ty := .boolean) rfl rfl dX5_isWord_20 (Nat.le_of_ble_eq_true rfl) (Nat.le_of_ble_eq_true rfl) ⟨rfl, rfl⟩

set_option maxHeartbeats 4000000 in
set_option maxRecDepth 100000 in
theorem mX5_isOrder (l : Launch) (D : va_G) (κ a : Nat → Nat) (ε : Nat) (V N way num m : Nat) (S : List Nat) (T : Nat → List (Nat × Nat)) (u : US) (hA : AB V N way num m S T u) (n : Nat) (hn : 1 ≤ n ∧ n ≤ N) : Ct (W0 κ a) l D κ ε yX5_isOrder cX5_isOrder 2 (some .boolean) 0 0 0 0 u [.ref (a 0), .int (iI (n : Int))] (fun v u' => v = some (.int (iI 1)) ∧ u' = u) := by
  obtain ⟨⟨hV, hN, hway, hnum, hm, hSl, hSV⟩, eV, eN, ew, en, ⟨eS, hS⟩, hT⟩ := id hA
  refine Ct.of (own := RX5) rfl (by decide +kernel) (Nat.le_of_ble_eq_true rfl) rfl (fun Γ h => ?_)
  refine w_iload_n h (pc := 0) dX5_isOrder_0 rfl ?_
  refine w_iconst h (pc := 1) dX5_isOrder_1 ?_
  refine w_icmp_lt h (pc := 2) (tgt := 20) dX5_isOrder_2 (by decide) (by omega) (by omega) (fun c2 => by exfalso; omega) (fun c2 => ?_)
  refine w_iload_n h (pc := 5) dX5_isOrder_5 rfl ?_
  refine w_aload_n h (pc := 6) dX5_isOrder_6 rfl ?_
  refine g0_ledger h (pc := 7) wm_16 dX5_isOrder_7 ?_
  refine g1_order h (pc := 10) eN wm_140 dX5_isOrder_10 ?_
  refine w_icmp_gt h (pc := 13) (tgt := 20) dX5_isOrder_13 (by decide) (by omega) (by omega) (fun c13 => by exfalso; omega) (fun c13 => ?_)
  refine w_iconst h (pc := 16) dX5_isOrder_16 ?_
  refine w_goto h (pc := 17) (tgt := 21) dX5_isOrder_17 (by decide) ?_
  exact w_iret h (pc := 21) (ty := .boolean) rfl rfl dX5_isOrder_21 (Nat.le_of_ble_eq_true rfl) (Nat.le_of_ble_eq_true rfl) ⟨rfl, rfl⟩

set_option maxHeartbeats 4000000 in
set_option maxRecDepth 100000 in
theorem mX5_isWay (l : Launch) (D : va_G) (κ a : Nat → Nat) (ε : Nat) (u : US) (w n : Nat) (hw : w ≤ 4) (hn : 1 ≤ n ∧ n ≤ 1000) : Ct (W0 κ a) l D κ ε yX5_isWay cX5_isWay 2 (some .boolean) 0 0 0 0 u [.int (iI (w : Int)), .int (iI (n : Int))] (fun v u' => v = some (.int (iI 1)) ∧ u' = u) := by
  refine Ct.of (own := RX5) rfl (by decide +kernel) (Nat.le_of_ble_eq_true rfl) rfl (fun Γ h => ?_)
  refine w_iload_n h (pc := 0) dX5_isWay_0 rfl ?_
  refine w_if_lt h (pc := 1) (tgt := 25) dX5_isWay_1 (by decide) (by omega) (fun c1 => by exfalso; omega) (fun c1 => ?_)
  refine w_iload_n h (pc := 4) dX5_isWay_4 rfl ?_
  refine w_iconst h (pc := 5) dX5_isWay_5 ?_
  refine w_icmp_gt h (pc := 6) (tgt := 25) dX5_isWay_6 (by decide) (by omega) (by omega) (fun c6 => by exfalso; omega) (fun c6 => ?_)
  refine w_iload_n h (pc := 9) dX5_isWay_9 rfl ?_
  refine w_iconst h (pc := 10) dX5_isWay_10 ?_
  refine w_icmp_lt h (pc := 11) (tgt := 25) dX5_isWay_11 (by decide) (by omega) (by omega) (fun c11 => by exfalso; omega) (fun c11 => ?_)
  refine w_iload_n h (pc := 14) dX5_isWay_14 rfl ?_
  refine w_sipush h (pc := 15) dX5_isWay_15 (by decide) ?_
  refine w_icmp_gt h (pc := 18) (tgt := 25) dX5_isWay_18 (by decide) (by omega) (by omega) (fun c18 => by exfalso; omega) (fun c18 => ?_)
  refine w_iconst h (pc := 21) dX5_isWay_21 ?_
  refine w_goto h (pc := 22) (tgt := 26) dX5_isWay_22 (by decide) ?_
  exact w_iret h (pc := 26) (ty := .boolean) rfl rfl dX5_isWay_26 (Nat.le_of_ble_eq_true rfl) (Nat.le_of_ble_eq_true rfl) ⟨rfl, rfl⟩

set_option maxHeartbeats 4000000 in
set_option maxRecDepth 100000 in
theorem mX5_isStep (l : Launch) (D : va_G) (κ a : Nat → Nat) (ε : Nat) (u : US) : Ct (W0 κ a) l D κ ε yX5_isStep cX5_isStep 3 (some .boolean) 2 40 0 0 u [.ref (a 0), .int (iI 3), .int (iI 1)] (fun v u' => v = some (.int (iI 1)) ∧ u' = u) := by
  refine Ct.of (own := RX5) rfl (by decide +kernel) (Nat.le_of_ble_eq_true rfl) rfl (fun Γ h => ?_)
  refine w_iload_n h (pc := 0) dX5_isStep_0 rfl ?_
  refine w_tabIn h (pc := 1) (tgt := 73) (off := 72) dX5_isStep_1 (by omega) (by decide) (by decide) rfl (by decide) ?_
  refine w_iload_n h (pc := 73) dX5_isStep_73 rfl ?_
  refine w_iconst h (pc := 74) dX5_isStep_74 ?_
  refine w_icmp_lt h (pc := 75) (tgt := 88) dX5_isStep_75 (by decide) (by omega) (by omega) (fun c75 => by exfalso; omega) (fun c75 => ?_)
  refine w_iload_n h (pc := 78) dX5_isStep_78 rfl ?_
  refine w_bipush h (pc := 79) dX5_isStep_79 (by decide) ?_
  refine w_icmp_gt h (pc := 81) (tgt := 88) dX5_isStep_81 (by decide) (by omega) (by omega) (fun c81 => by exfalso; omega) (fun c81 => ?_)
  refine w_iconst h (pc := 84) dX5_isStep_84 ?_
  refine w_goto h (pc := 85) (tgt := 89) dX5_isStep_85 (by decide) ?_
  exact w_iret h (pc := 89) (ty := .boolean) rfl rfl dX5_isStep_89 (Nat.le_of_ble_eq_true rfl) (Nat.le_of_ble_eq_true rfl) ⟨rfl, rfl⟩

set_option maxHeartbeats 4000000 in
set_option maxRecDepth 100000 in
theorem mX5_append (l : Launch) (D : va_G) (κ a : Nat → Nat) (ε : Nat) (V N way num m : Nat) (S : List Nat) (T : Nat → List (Nat × Nat)) (u : US) (hA : AB V N way num m S T u) (w : Nat) (hw : w < V) (hl9 : S.length < 12) : Ct (W0 κ a) l D κ ε yX5_append cX5_append 2 none 0 0 0 0 u [.ref (a 0), .int (iI (w : Int))] (fun v u' => v = none ∧ Fr [0] [6] u u' ∧ AB V N way num m (S ++ [w]) T u') := by
  obtain ⟨⟨hV, hN, hway, hnum, hm, hSl, hSV⟩, eV, eN, ew, en, ⟨eS, hS⟩, hT⟩ := id hA
  refine Ct.of (own := RX5) rfl (by decide +kernel) (Nat.le_of_ble_eq_true rfl) rfl (fun Γ h => ?_)
  refine w_aload_n h (pc := 0) dX5_append_0 rfl ?_
  refine g0_length h (pc := 1) eS wm_33 dX5_append_1 ?_
  refine w_bipush h (pc := 4) dX5_append_4 (by decide) ?_
  refine w_icmp_ge h (pc := 6) (tgt := 29) dX5_append_6 (by decide) (by omega) (by omega) (fun c6 => by exfalso; omega) (fun c6 => ?_)
  refine w_aload_n h (pc := 9) dX5_append_9 rfl ?_
  refine g0_sentence h (pc := 10) wm_32 dX5_append_10 ?_
  refine w_aload_n h (pc := 13) dX5_append_13 rfl ?_
  refine g0_length h (pc := 14) eS wm_33 dX5_append_14 ?_
  refine w_iload_n h (pc := 17) dX5_append_17 rfl ?_
  refine st_sentence h (pc := 18) (by omega) dX5_append_18 ?_
  refine w_aload_n h (pc := 19) dX5_append_19 rfl ?_
  refine w_dup h (pc := 20) dX5_append_20 rfl ?_
  refine g0_length h (pc := 21) eS wm_33 dX5_append_21 ?_
  refine w_iconst h (pc := 24) dX5_append_24 ?_
  refine w_iadd h (pc := 25) dX5_append_25 ?_
  refine p0_length h (pc := 26) wm_33 dX5_append_26 ?_
  exact w_vret h (pc := 29) rfl dX5_append_29 (Nat.le_of_ble_eq_true rfl) (Nat.le_of_ble_eq_true rfl) ⟨rfl, (Fr.A (by simp)).tr (Fr.S (by simp)), ab_app hA hw hl9⟩

set_option maxHeartbeats 4000000 in
set_option maxRecDepth 100000 in
theorem mX5_addSentence (l : Launch) (D : va_G) (κ a : Nat → Nat) (ε : Nat) (V N way num m : Nat) (S : List Nat) (T : Nat → List (Nat × Nat)) (u : US) (hA : AB V N way num m S T u) (c : Nat) (hc : 0 < c ∧ c ≤ 4) (hm9 : m + 28 ≤ 700) (hS6 : S.length ≤ 6) : Ct (W0 κ a) l D κ ε yX5_addSentence cX5_addSentence 4 none 3 86 0 0 u [.ref (a 0), .int (iI (c : Int))] (fun v u' => v = none ∧ Fr tS tG u u' ∧ ∃ T', AB V N way num (m + 28) S T' u' ∧ ∀ i, i < 4 → T' i = adT V S T c N 0 i) := by
  obtain ⟨⟨hV, hN, hway, hnum, hm, hSl, hSV⟩, eV, eN, ew, en, ⟨eS, hS⟩, hT⟩ := id hA
  refine Ct.of (own := RX5) rfl (by decide +kernel) (Nat.le_of_ble_eq_true rfl) rfl (fun Γ h => ?_)
  refine w_iconst h (pc := 0) dX5_addSentence_0 ?_
  refine w_istore_n h (pc := 1) dX5_addSentence_1 (by decide) ?_
  have lp2 : ∀ (n9 o m9 : Nat) (w : US), N < o + n9 → o ≤ N → m9 ≤ m + 7 * o → Fr tS tG u w → (∃ T9, TA V m9 w T9 ∧ ∀ i, i < 4 → T9 i = adT V S T c o 0 i) → WW Γ 4 w 2 [(0, .ref (a 0)), (1, .int (iI (c : Int))), (2, .int (iI ((o : Int) + 1)))] [] := by
    intro n9
    induction n9 with
    | zero => intro o m9 w hn9 ho hm99 hF hT9; exfalso; omega
    | succ n9 ih =>
      intro o m9 w hn9 ho hm99 hF hT9
      obtain ⟨T9, hT9, hs9⟩ := hT9
      have hAw := hA.setT hF hT9 (by omega)
      obtain ⟨-, eVw, eNw, eww, enw, ⟨eSw, hSw⟩, -⟩ := id hAw
      refine w_iload_n h (pc := 2) dX5_addSentence_2 rfl ?_
      refine w_aload_n h (pc := 3) dX5_addSentence_3 rfl ?_
      refine g0_ledger h (pc := 4) wm_16 dX5_addSentence_4 ?_
      refine g1_order h (pc := 7) eNw wm_140 dX5_addSentence_7 ?_
      refine w_icmp_gt h (pc := 10) (tgt := 50) dX5_addSentence_10 (by decide) (by omega) (by omega) (fun c10 => ?_) (fun c10 => ?_)
      · have e : o = N := by omega
        subst e
        exact w_vret h (pc := 50) rfl dX5_addSentence_50 (Nat.le_of_ble_eq_true rfl) (Nat.le_of_ble_eq_true rfl) ⟨rfl, hF, T9, hA.setT hF (hT9.mono (by omega)) (by omega), hs9⟩
      · have ih_2 := ih
        refine w_iconst h (pc := 13) dX5_addSentence_13 ?_
        refine w_istore_n h (pc := 14) dX5_addSentence_14 (by decide) ?_
        have lp15 : ∀ (n9 p m9 : Nat) (w : US), S.length + 1 < p + n9 → p ≤ S.length + 1 → m9 ≤ m + 7 * o + p → Fr tS tG u w → (∃ T9, TA V m9 w T9 ∧ ∀ i, i < 4 → T9 i = adT V S T c o p i) → WW Γ 4 w 15 [(0, .ref (a 0)), (1, .int (iI (c : Int))), (2, .int (iI ((o : Int) + 1))), (3, .int (iI (p : Int)))] [] := by
          intro n9
          induction n9 with
          | zero => intro p m8 w8 hn8 hp hm8 hF8 hT8; exfalso; omega
          | succ n9 ih =>
            intro p m8 w8 hn8 hp hm8 hF8 hT8
            obtain ⟨T8, hT8, hs8⟩ := hT8
            have hAw8 := hA.setT hF8 hT8 (by omega)
            obtain ⟨-, eVx, eNx, ewx, enx, ⟨eSx, hSx⟩, -⟩ := id hAw8
            refine w_iload_n h (pc := 15) dX5_addSentence_15 rfl ?_
            refine w_aload_n h (pc := 16) dX5_addSentence_16 rfl ?_
            refine g0_length h (pc := 17) eSx wm_33 dX5_addSentence_17 ?_
            refine w_icmp_gt h (pc := 20) (tgt := 44) dX5_addSentence_20 (by decide) (by omega) (by omega) (fun c20 => ?_) (fun c20 => ?_)
            · refine w_iinc h (pc := 44) dX5_addSentence_44 rfl (by decide) ?_
              refine w_goto h (pc := 47) (tgt := 2) dX5_addSentence_47 (by decide) ?_
              exact WW.sub (by rfl) (ih_2 (o + 1) m8 w8 (by omega) (by omega) (by omega) hF8 ⟨T8, hT8, fun i hi => by rw [hs8 i hi, show p = S.length + 1 by omega]; exact adT_next V S T c o i⟩)
            · refine w_aload_n h (pc := 23) dX5_addSentence_23 rfl ?_
              refine g0_ledger h (pc := 24) wm_16 dX5_addSentence_24 ?_
              refine w_iload_n h (pc := 27) dX5_addSentence_27 rfl ?_
              refine w_aload_n h (pc := 28) dX5_addSentence_28 rfl ?_
              refine w_iload_n h (pc := 29) dX5_addSentence_29 rfl ?_
              refine w_iload_n h (pc := 30) dX5_addSentence_30 rfl ?_
              rw [show ((o : Int) + 1) = ((o + 1 : Nat) : Int) from rfl]
              refine w_callV2 h (pc := 31) (mX5_keyUpTo l D κ a ε V N way num m8 S T8 w8 hAw8 (p : Int) (by omega) (o + 1) (by omega)) 0 rfl rfl (gdV wm_170 wm_171 wm_172 wm_2 wm_173) (by decide +kernel) ⟨(Nat.le_of_ble_eq_true rfl), (Nat.le_of_ble_eq_true rfl)⟩ ⟨(Nat.le_of_ble_eq_true rfl), (Nat.le_of_ble_eq_true rfl)⟩ (fun _ _ _ => ⟨rfl, rfl⟩) (Nat.le_of_ble_eq_true rfl) dX5_addSentence_31 (fun v1 u1 hp1 => ?_)
              obtain ⟨rfl, e1⟩ := hp1
              obtain rfl := e1.symm
              simp only [Option.toList_some, List.cons_append, List.nil_append]
              refine w_iload_n h (pc := 34) dX5_addSentence_34 rfl ?_
              have hky := ky_4 hV hSV (n := o + 1) (by omega) (p : Int)
              have hkm := ky_mod hV hSV o (p : Int)
              have hkp := dg_pos (V := V) (S := S) (z := (p : Int)) (by omega)
              have hkl := dg_le hSV (p : Int)
              refine w_callV3 h (pc := 35) (mX0_raise l D κ a ε V m8 w8 T8 hT8 (o + 1) (by omega) (by omega) (ky V S (p : Int) (o + 1)) hky (by omega) c hc) 1 rfl rfl (gdV wm_178 wm_179 wm_180 wm_15 wm_181) (by decide +kernel) ⟨(Nat.le_of_ble_eq_true rfl), (Nat.le_of_ble_eq_true rfl)⟩ ⟨(Nat.le_of_ble_eq_true rfl), (Nat.le_of_ble_eq_true rfl)⟩ (fun _ _ _ => ⟨rfl, rfl⟩) (Nat.le_of_ble_eq_true rfl) dX5_addSentence_35 (fun v2 u2 hp2 => ?_)
              obtain ⟨rfl, hF2, T2, hT2, hs2⟩ := hp2
              simp only [Option.toList_none, List.nil_append]
              refine w_iinc h (pc := 38) dX5_addSentence_38 rfl (by decide) ?_
              refine w_goto h (pc := 41) (tgt := 15) dX5_addSentence_41 (by decide) ?_
              exact WW.sub (by rfl) (ih (p + 1) (m8 + 1) _ (by omega) (by omega) (by omega) (hF8.tr hF2) ⟨T2, hT2, fun i hi => by rw [hs2 i hi]; first | (rw [hs8 i hi]; exact adT_step V S T c o p i)⟩)
        exact WW.sub (by rfl) (lp15 (S.length + 2) 0 m9 w (by omega) (by omega) (by omega) hF ⟨T9, hT9, hs9⟩)
  exact WW.sub (by rfl) (lp2 (N + 1) 0 m u (by omega) (by omega) (by omega) Fr.rfl ⟨T, hT, fun i _ => (adT_0 V S T c i).symm⟩)

set_option maxHeartbeats 4000000 in
set_option maxRecDepth 100000 in
theorem mX5_takeSentence (l : Launch) (D : va_G) (κ a : Nat → Nat) (ε : Nat) (V N way num m : Nat) (S : List Nat) (T : Nat → List (Nat × Nat)) (u : US) (hA : AB V N way num m S T u) (c : Nat) (hc : 0 < c ∧ c ≤ 4) : Ct (W0 κ a) l D κ ε yX5_takeSentence cX5_takeSentence 5 (some .int) 5 130 0 0 u [.ref (a 0), .int (iI (c : Int))] (fun v u' => (∃ g : Nat, v = some (.int (iI (g : Int))) ∧ g ≤ 52) ∧ Fr tS tG u u' ∧ ∃ T', AB V N way num m S T' u' ∧ ∀ i, i < 4 → T' i = lwT V S T c N 0 i) := by
  obtain ⟨⟨hV, hN, hway, hnum, hm, hSl, hSV⟩, eV, eN, ew, en, ⟨eS, hS⟩, hT⟩ := id hA
  refine Ct.of (own := RX5) rfl (by decide +kernel) (Nat.le_of_ble_eq_true rfl) rfl (fun Γ h => ?_)
  refine w_iconst h (pc := 0) dX5_takeSentence_0 ?_
  refine w_istore_n h (pc := 1) dX5_takeSentence_1 (by decide) ?_
  refine w_iconst h (pc := 2) dX5_takeSentence_2 ?_
  refine w_istore_n h (pc := 3) dX5_takeSentence_3 (by decide) ?_
  have lp4 : ∀ (n9 o g : Nat) (w : US), N < o + n9 → o ≤ N → g ≤ 13 * o → Fr tS tG u w → (∃ T9, TA V m w T9 ∧ ∀ i, i < 4 → T9 i = lwT V S T c o 0 i) → WW Γ 5 w 4 [(0, .ref (a 0)), (1, .int (iI (c : Int))), (2, .int (iI (g : Int))), (3, .int (iI ((o : Int) + 1)))] [] := by
    intro n9
    induction n9 with
    | zero => intro o g w hn9 ho hg hF hT9; exfalso; omega
    | succ n9 ih =>
      intro o g w hn9 ho hg hF hT9
      obtain ⟨T9, hT9, hs9⟩ := hT9
      have hAw := hA.setT hF hT9 (by omega)
      obtain ⟨-, eVw, eNw, eww, enw, ⟨eSw, hSw⟩, -⟩ := id hAw
      refine w_iload_n h (pc := 4) dX5_takeSentence_4 rfl ?_
      refine w_aload_n h (pc := 5) dX5_takeSentence_5 rfl ?_
      refine g0_ledger h (pc := 6) wm_16 dX5_takeSentence_6 ?_
      refine g1_order h (pc := 9) eNw wm_140 dX5_takeSentence_9 ?_
      refine w_icmp_gt h (pc := 12) (tgt := 61) dX5_takeSentence_12 (by decide) (by omega) (by omega) (fun c12 => ?_) (fun c12 => ?_)
      · have e : o = N := by omega
        subst e
        refine w_iload_n h (pc := 61) dX5_takeSentence_61 rfl ?_
        exact w_iret h (pc := 62) (ty := .int) rfl rfl dX5_takeSentence_62 (Nat.le_of_ble_eq_true rfl) (Nat.le_of_ble_eq_true rfl) ⟨⟨g, rfl, by omega⟩, hF, T9, hA.setT hF hT9 (by omega), hs9⟩
      · have ih_2 := ih
        refine w_iconst h (pc := 15) dX5_takeSentence_15 ?_
        refine w_istore h (pc := 16) dX5_takeSentence_16 (by decide) ?_
        have lp18 : ∀ (n9 p g : Nat) (w : US), S.length + 1 < p + n9 → p ≤ S.length + 1 → g ≤ 13 * o + p → Fr tS tG u w → (∃ T9, TA V m w T9 ∧ ∀ i, i < 4 → T9 i = lwT V S T c o p i) → WW Γ 5 w 18 [(0, .ref (a 0)), (1, .int (iI (c : Int))), (2, .int (iI (g : Int))), (3, .int (iI ((o : Int) + 1))), (4, .int (iI (p : Int)))] [] := by
          intro n9
          induction n9 with
          | zero => intro p g8 w8 hn8 hp hg8 hF8 hT8; exfalso; omega
          | succ n9 ih =>
            intro p g8 w8 hn8 hp hg8 hF8 hT8
            obtain ⟨T8, hT8, hs8⟩ := hT8
            have hAw8 := hA.setT hF8 hT8 (by omega)
            obtain ⟨-, eVx, eNx, ewx, enx, ⟨eSx, hSx⟩, -⟩ := id hAw8
            refine w_iload h (pc := 18) dX5_takeSentence_18 rfl ?_
            refine w_aload_n h (pc := 20) dX5_takeSentence_20 rfl ?_
            refine g0_length h (pc := 21) eSx wm_33 dX5_takeSentence_21 ?_
            refine w_icmp_gt h (pc := 24) (tgt := 55) dX5_takeSentence_24 (by decide) (by omega) (by omega) (fun c24 => ?_) (fun c24 => ?_)
            · refine w_iinc h (pc := 55) dX5_takeSentence_55 rfl (by decide) ?_
              refine w_goto h (pc := 58) (tgt := 4) dX5_takeSentence_58 (by decide) ?_
              exact WW.sub (by rfl) (ih_2 (o + 1) g8 w8 (by omega) (by omega) (by omega) hF8 ⟨T8, hT8, fun i hi => by rw [hs8 i hi, show p = S.length + 1 by omega]; exact lwT_next V S T c o i⟩)
            · refine w_aload_n h (pc := 27) dX5_takeSentence_27 rfl ?_
              refine g0_ledger h (pc := 28) wm_16 dX5_takeSentence_28 ?_
              refine w_iload_n h (pc := 31) dX5_takeSentence_31 rfl ?_
              refine w_aload_n h (pc := 32) dX5_takeSentence_32 rfl ?_
              refine w_iload h (pc := 33) dX5_takeSentence_33 rfl ?_
              refine w_iload_n h (pc := 35) dX5_takeSentence_35 rfl ?_
              rw [show ((o : Int) + 1) = ((o + 1 : Nat) : Int) from rfl]
              refine w_callV2 h (pc := 36) (mX5_keyUpTo l D κ a ε V N way num m S T8 w8 hAw8 (p : Int) (by omega) (o + 1) (by omega)) 0 rfl rfl (gdV wm_170 wm_171 wm_172 wm_2 wm_173) (by decide +kernel) ⟨(Nat.le_of_ble_eq_true rfl), (Nat.le_of_ble_eq_true rfl)⟩ ⟨(Nat.le_of_ble_eq_true rfl), (Nat.le_of_ble_eq_true rfl)⟩ (fun _ _ _ => ⟨rfl, rfl⟩) (Nat.le_of_ble_eq_true rfl) dX5_takeSentence_36 (fun v1 u1 hp1 => ?_)
              obtain ⟨rfl, e1⟩ := hp1
              obtain rfl := e1.symm
              simp only [Option.toList_some, List.cons_append, List.nil_append]
              refine w_iload_n h (pc := 39) dX5_takeSentence_39 rfl ?_
              have hky := ky_4 hV hSV (n := o + 1) (by omega) (p : Int)
              have hkm := ky_mod hV hSV o (p : Int)
              have hkp := dg_pos (V := V) (S := S) (z := (p : Int)) (by omega)
              have hkl := dg_le hSV (p : Int)
              refine w_callV3 h (pc := 40) (mX0_lower l D κ a ε V m w8 T8 hT8 (o + 1) (by omega) (by omega) (ky V S (p : Int) (o + 1)) hky (by omega) c hc) 1 rfl rfl (gdV wm_208 wm_209 wm_210 wm_15 wm_211) (by decide +kernel) ⟨(Nat.le_of_ble_eq_true rfl), (Nat.le_of_ble_eq_true rfl)⟩ ⟨(Nat.le_of_ble_eq_true rfl), (Nat.le_of_ble_eq_true rfl)⟩ (fun _ _ _ => ⟨rfl, rfl⟩) (Nat.le_of_ble_eq_true rfl) dX5_takeSentence_40 (fun v2 u2 hp2 => ?_)
              obtain ⟨rfl, hF2, T2, hT2, hs2⟩ := hp2
              simp only [Option.toList_some, List.cons_append, List.nil_append]
              refine w_if_eq h (pc := 43) (tgt := 49) dX5_takeSentence_43 (by decide) (by split <;> omega) (fun c43 => ?_) (fun c43 => ?_)
              · refine w_iinc h (pc := 49) dX5_takeSentence_49 rfl (by decide) ?_
                refine w_goto h (pc := 52) (tgt := 18) dX5_takeSentence_52 (by decide) ?_
                first
                | exact WW.sub (by rfl) (ih (p + 1) g8 _ (by omega) (by omega) (by omega) (hF8.tr hF2) ⟨T2, hT2, fun i hi => by rw [hs2 i hi, hs8 i hi]; exact lwT_step V S T c o p i⟩)
                | exact WW.sub (by rfl) (ih (p + 1) (g8 + 1) _ (by omega) (by omega) (by omega) (hF8.tr hF2) ⟨T2, hT2, fun i hi => by rw [hs2 i hi, hs8 i hi]; exact lwT_step V S T c o p i⟩)
              · refine w_iinc h (pc := 46) dX5_takeSentence_46 rfl (by decide) ?_
                refine w_iinc h (pc := 49) dX5_takeSentence_49 rfl (by decide) ?_
                refine w_goto h (pc := 52) (tgt := 18) dX5_takeSentence_52 (by decide) ?_
                first
                | exact WW.sub (by rfl) (ih (p + 1) g8 _ (by omega) (by omega) (by omega) (hF8.tr hF2) ⟨T2, hT2, fun i hi => by rw [hs2 i hi, hs8 i hi]; exact lwT_step V S T c o p i⟩)
                | exact WW.sub (by rfl) (ih (p + 1) (g8 + 1) _ (by omega) (by omega) (by omega) (hF8.tr hF2) ⟨T2, hT2, fun i hi => by rw [hs2 i hi, hs8 i hi]; exact lwT_step V S T c o p i⟩)
        exact WW.sub (by rfl) (lp18 (S.length + 2) 0 g w (by omega) (by omega) (by omega) hF ⟨T9, hT9, hs9⟩)
  exact WW.sub (by rfl) (lp4 (N + 1) 0 0 u (by omega) (by omega) (by omega) Fr.rfl ⟨T, hT, fun i _ => (lwT_0 V S T c i).symm⟩)

set_option maxHeartbeats 4000000 in
set_option maxRecDepth 100000 in
theorem mX5_timesInSentence (l : Launch) (D : va_G) (κ a : Nat → Nat) (ε : Nat) (V N way num m : Nat) (S : List Nat) (T : Nat → List (Nat × Nat)) (u : US) (hA : AB V N way num m S T u) (k n : Nat) (hk : k < 38416) (hn : n ≤ 4) : Ct (W0 κ a) l D κ ε yX5_timesInSentence cX5_timesInSentence 5 (some .int) 2 45 0 0 u [.ref (a 0), .int (iI (k : Int)), .int (iI (n : Int))] (fun v u' => v = some (.int (iI (oc k (kys V S n (S.length + 1)) : Int))) ∧ u' = u) := by
  obtain ⟨⟨hV, hN, hway, hnum, hm, hSl, hSV⟩, eV, eN, ew, en, ⟨eS, hS⟩, hT⟩ := id hA
  refine Ct.of (own := RX5) rfl (by decide +kernel) (Nat.le_of_ble_eq_true rfl) rfl (fun Γ h => ?_)
  refine w_iconst h (pc := 0) dX5_timesInSentence_0 ?_
  refine w_istore_n h (pc := 1) dX5_timesInSentence_1 (by decide) ?_
  refine w_iconst h (pc := 2) dX5_timesInSentence_2 ?_
  refine w_istore h (pc := 3) dX5_timesInSentence_3 (by decide) ?_
  have lp5 : ∀ (n9 p : Nat) (s : Int), S.length + 1 < p + n9 → p ≤ S.length + 1 → s = (oc k (kys V S n p) : Int) → WW Γ 5 u 5 [(0, .ref (a 0)), (1, .int (iI (k : Int))), (2, .int (iI (n : Int))), (3, .int (iI s)), (4, .int (iI (p : Int)))] [] := by
    intro n9
    induction n9 with
    | zero => intro p s hn9 hp hs; exfalso; omega
    | succ n9 ih =>
      intro p s hn9 hp hs
      refine w_iload h (pc := 5) dX5_timesInSentence_5 rfl ?_
      refine w_aload_n h (pc := 7) dX5_timesInSentence_7 rfl ?_
      refine g0_length h (pc := 8) eS wm_33 dX5_timesInSentence_8 ?_
      refine w_icmp_gt h (pc := 11) (tgt := 34) dX5_timesInSentence_11 (by decide) (by omega) (by omega) (fun c11 => ?_) (fun c11 => ?_)
      · obtain rfl : p = S.length + 1 := by omega
        refine w_iload_n h (pc := 34) dX5_timesInSentence_34 rfl ?_
        exact w_iret h (pc := 35) (ty := .int) rfl rfl dX5_timesInSentence_35 (Nat.le_of_ble_eq_true rfl) (Nat.le_of_ble_eq_true rfl) ⟨by rw [hs], rfl⟩
      · refine w_aload_n h (pc := 14) dX5_timesInSentence_14 rfl ?_
        refine w_iload h (pc := 15) dX5_timesInSentence_15 rfl ?_
        refine w_iload_n h (pc := 17) dX5_timesInSentence_17 rfl ?_
        refine w_callV2 h (pc := 18) (mX5_keyUpTo l D κ a ε V N way num m S T u hA (p : Int) (by omega) n hn) 0 rfl rfl (gdV wm_170 wm_171 wm_172 wm_2 wm_173) (by decide +kernel) ⟨(Nat.le_of_ble_eq_true rfl), (Nat.le_of_ble_eq_true rfl)⟩ ⟨(Nat.le_of_ble_eq_true rfl), (Nat.le_of_ble_eq_true rfl)⟩ (fun _ _ _ => ⟨rfl, rfl⟩) (Nat.le_of_ble_eq_true rfl) dX5_timesInSentence_18 (fun v1 u1 hp1 => ?_)
        obtain ⟨rfl, e1⟩ := hp1
        obtain rfl := e1.symm
        have hky := ky_4 hV hSV hn (p : Int)
        simp only [Option.toList_some, List.cons_append, List.nil_append]
        refine w_iload_n h (pc := 21) dX5_timesInSentence_21 rfl ?_
        refine w_icmp_ne h (pc := 22) (tgt := 28) dX5_timesInSentence_22 (by decide) (by omega) (by omega) (fun c22 => ?_) (fun c22 => ?_)
        · refine w_iinc h (pc := 28) dX5_timesInSentence_28 rfl (by decide) ?_
          refine w_goto h (pc := 31) (tgt := 5) dX5_timesInSentence_31 (by decide) ?_
          first
          | exact WW.sub (by rfl) (ih (p + 1) s (by omega) (by omega) (by rw [kys_s, oc_s, if_neg (by omega)]; omega))
          | exact WW.sub (by rfl) (ih (p + 1) (s + 1) (by omega) (by omega) (by rw [kys_s, oc_s, if_pos (by omega)]; omega))
        · refine w_iinc h (pc := 25) dX5_timesInSentence_25 rfl (by decide) ?_
          refine w_iinc h (pc := 28) dX5_timesInSentence_28 rfl (by decide) ?_
          refine w_goto h (pc := 31) (tgt := 5) dX5_timesInSentence_31 (by decide) ?_
          first
          | exact WW.sub (by rfl) (ih (p + 1) s (by omega) (by omega) (by rw [kys_s, oc_s, if_neg (by omega)]; omega))
          | exact WW.sub (by rfl) (ih (p + 1) (s + 1) (by omega) (by omega) (by rw [kys_s, oc_s, if_pos (by omega)]; omega))
  exact WW.sub (by rfl) (lp5 (S.length + 2) 0 0 (by omega) (by omega) rfl)

set_option maxHeartbeats 4000000 in
set_option maxRecDepth 100000 in
theorem mX5_canTakeSentence (l : Launch) (D : va_G) (κ a : Nat → Nat) (ε : Nat) (V N way num m : Nat) (S : List Nat) (T : Nat → List (Nat × Nat)) (u : US) (hA : AB V N way num m S T u) (hcan : ∀ n, 1 ≤ n → n ≤ N → ∀ p : Nat, p ≤ S.length → oc (ky V S (p : Int) n) (kys V S n (S.length + 1)) ≤ gt (T (n - 1)) (ky V S (p : Int) n)) : Ct (W0 κ a) l D κ ε yX5_canTakeSentence cX5_canTakeSentence 4 (some .boolean) 3 69 0 0 u [.ref (a 0)] (fun v u' => v = some (.int (iI 1)) ∧ u' = u) := by
  obtain ⟨⟨hV, hN, hway, hnum, hm, hSl, hSV⟩, eV, eN, ew, en, ⟨eS, hS⟩, hT⟩ := id hA
  refine Ct.of (own := RX5) rfl (by decide +kernel) (Nat.le_of_ble_eq_true rfl) rfl (fun Γ h => ?_)
  refine w_iconst h (pc := 0) dX5_canTakeSentence_0 ?_
  refine w_istore_n h (pc := 1) dX5_canTakeSentence_1 (by decide) ?_
  have lp2 : ∀ (n9 o : Nat), N < o + n9 → o ≤ N → WW Γ 4 u 2 [(0, .ref (a 0)), (1, .int (iI ((o : Int) + 1)))] [] := by
    intro n9
    induction n9 with
    | zero => intro o hn9 ho; exfalso; omega
    | succ n9 ih =>
      intro o hn9 ho
      refine w_iload_n h (pc := 2) dX5_canTakeSentence_2 rfl ?_
      refine w_aload_n h (pc := 3) dX5_canTakeSentence_3 rfl ?_
      refine g0_ledger h (pc := 4) wm_16 dX5_canTakeSentence_4 ?_
      refine g1_order h (pc := 7) eN wm_140 dX5_canTakeSentence_7 ?_
      refine w_icmp_gt h (pc := 10) (tgt := 65) dX5_canTakeSentence_10 (by decide) (by omega) (by omega) (fun c10 => ?_) (fun c10 => ?_)
      · refine w_iconst h (pc := 65) dX5_canTakeSentence_65 ?_
        exact w_iret h (pc := 66) (ty := .boolean) rfl rfl dX5_canTakeSentence_66 (Nat.le_of_ble_eq_true rfl) (Nat.le_of_ble_eq_true rfl) ⟨rfl, rfl⟩
      · have ih_2 := ih
        refine w_iconst h (pc := 13) dX5_canTakeSentence_13 ?_
        refine w_istore_n h (pc := 14) dX5_canTakeSentence_14 (by decide) ?_
        have lp15 : ∀ (n9 p : Nat), S.length + 1 < p + n9 → p ≤ S.length + 1 → WW Γ 4 u 15 [(0, .ref (a 0)), (1, .int (iI ((o : Int) + 1))), (2, .int (iI (p : Int)))] [] := by
          intro n9
          induction n9 with
          | zero => intro p hn8 hp; exfalso; omega
          | succ n9 ih =>
            intro p hn8 hp
            refine w_iload_n h (pc := 15) dX5_canTakeSentence_15 rfl ?_
            refine w_aload_n h (pc := 16) dX5_canTakeSentence_16 rfl ?_
            refine g0_length h (pc := 17) eS wm_33 dX5_canTakeSentence_17 ?_
            refine w_icmp_gt h (pc := 20) (tgt := 59) dX5_canTakeSentence_20 (by decide) (by omega) (by omega) (fun c20 => ?_) (fun c20 => ?_)
            · refine w_iinc h (pc := 59) dX5_canTakeSentence_59 rfl (by decide) ?_
              refine w_goto h (pc := 62) (tgt := 2) dX5_canTakeSentence_62 (by decide) ?_
              exact WW.sub (by rfl) (ih_2 (o + 1) (by omega) (by omega))
            · refine w_aload_n h (pc := 23) dX5_canTakeSentence_23 rfl ?_
              refine w_iload_n h (pc := 24) dX5_canTakeSentence_24 rfl ?_
              refine w_iload_n h (pc := 25) dX5_canTakeSentence_25 rfl ?_
              rw [show ((o : Int) + 1) = ((o + 1 : Nat) : Int) from rfl]
              have hky := ky_4 hV hSV (n := o + 1) (by omega) (p : Int)
              have hcn := hcan (o + 1) (by omega) (by omega) p (by omega)
              have hTo := hT o (by omega)
              have hgl : gt (T o) (ky V S (p : Int) (o + 1)) ≤ 4 * m := gt_le fun b hb => (hTo.2.2.2.2 b hb).2.2.2
              have hol := oc_le (ky V S (p : Int) (o + 1)) (kys V S (o + 1) (S.length + 1))
              rw [kys_len] at hol
              rw [show o + 1 - 1 = o by omega] at hcn
              refine w_callV2 h (pc := 26) (mX5_keyUpTo l D κ a ε V N way num m S T u hA (p : Int) (by omega) (o + 1) (by omega)) 0 rfl rfl (gdV wm_170 wm_171 wm_172 wm_2 wm_173) (by decide +kernel) ⟨(Nat.le_of_ble_eq_true rfl), (Nat.le_of_ble_eq_true rfl)⟩ ⟨(Nat.le_of_ble_eq_true rfl), (Nat.le_of_ble_eq_true rfl)⟩ (fun _ _ _ => ⟨rfl, rfl⟩) (Nat.le_of_ble_eq_true rfl) dX5_canTakeSentence_26 (fun v1 u1 hp1 => ?_)
              obtain ⟨rfl, e1⟩ := hp1
              obtain rfl := e1.symm
              simp only [Option.toList_some, List.cons_append, List.nil_append]
              refine w_istore_n h (pc := 29) dX5_canTakeSentence_29 (by decide) ?_
              refine w_aload_n h (pc := 30) dX5_canTakeSentence_30 rfl ?_
              refine g0_ledger h (pc := 31) wm_16 dX5_canTakeSentence_31 ?_
              refine w_iload_n h (pc := 34) dX5_canTakeSentence_34 rfl ?_
              refine w_callV1 h (pc := 35) (mX0_countsOf l D κ a ε u (o + 1) (by omega)) 1 rfl rfl (gdV wm_269 wm_120 wm_121 wm_15 wm_122) (by decide +kernel) ⟨(Nat.le_of_ble_eq_true rfl), (Nat.le_of_ble_eq_true rfl)⟩ ⟨(Nat.le_of_ble_eq_true rfl), (Nat.le_of_ble_eq_true rfl)⟩ (fun _ _ _ => ⟨rfl, rfl⟩) (Nat.le_of_ble_eq_true rfl) dX5_canTakeSentence_35 (fun v2 u2 hp2 => ?_)
              obtain ⟨rfl, e2⟩ := hp2
              obtain rfl := e2.symm
              rw [show o + 1 - 1 = o by omega]
              simp only [Option.toList_some, List.cons_append, List.nil_append]
              refine w_iload_n h (pc := 38) dX5_canTakeSentence_38 rfl ?_
              refine w_callV1 h (pc := 39) (mX4_numberOf l D κ a ε u o (by omega) (T o) hTo.1 (hTo.2.O (by omega)) (ky V S (p : Int) (o + 1)) (by omega)) _ (ws_T (by omega)) rfl (gdV wm_394 wm_395 wm_396 wm_47 wm_397) (by decide +kernel) ⟨(Nat.le_of_ble_eq_true rfl), (Nat.le_of_ble_eq_true rfl)⟩ ⟨(Nat.le_of_ble_eq_true rfl), (Nat.le_of_ble_eq_true rfl)⟩ (fun _ _ _ => ⟨rfl, rfl⟩) (Nat.le_of_ble_eq_true rfl) dX5_canTakeSentence_39 (fun v3 u3 hp3 => ?_)
              obtain ⟨rfl, e3⟩ := hp3
              obtain rfl := e3.symm
              simp only [Option.toList_some, List.cons_append, List.nil_append]
              refine w_aload_n h (pc := 42) dX5_canTakeSentence_42 rfl ?_
              refine w_iload_n h (pc := 43) dX5_canTakeSentence_43 rfl ?_
              refine w_iload_n h (pc := 44) dX5_canTakeSentence_44 rfl ?_
              refine w_callV2 h (pc := 45) (mX5_timesInSentence l D κ a ε V N way num m S T u hA (ky V S (p : Int) (o + 1)) (o + 1) (by omega) (by omega)) 0 rfl rfl (gdV wm_398 wm_399 wm_400 wm_2 wm_401) (by decide +kernel) ⟨(Nat.le_of_ble_eq_true rfl), (Nat.le_of_ble_eq_true rfl)⟩ ⟨(Nat.le_of_ble_eq_true rfl), (Nat.le_of_ble_eq_true rfl)⟩ (fun _ _ _ => ⟨rfl, rfl⟩) (Nat.le_of_ble_eq_true rfl) dX5_canTakeSentence_45 (fun v4 u4 hp4 => ?_)
              obtain ⟨rfl, e4⟩ := hp4
              obtain rfl := e4.symm
              simp only [Option.toList_some, List.cons_append, List.nil_append]
              refine w_icmp_ge h (pc := 48) (tgt := 53) dX5_canTakeSentence_48 (by decide) (by omega) (by omega) (fun c48 => ?_) (fun c48 => by exfalso; omega)
              refine w_iinc h (pc := 53) dX5_canTakeSentence_53 rfl (by decide) ?_
              refine w_goto h (pc := 56) (tgt := 15) dX5_canTakeSentence_56 (by decide) ?_
              exact WW.sub (by rfl) (ih (p + 1) (by omega) (by omega))
        exact WW.sub (by rfl) (lp15 (S.length + 2) 0 (by omega) (by omega))
  exact WW.sub (by rfl) (lp2 (N + 1) 0 (by omega) (by omega))
end
section
theorem ky_3 {V : Nat} {S : List Nat} (hV : V ≤ 12) (hS : ∀ w ∈ S, w < V) {n : Nat} (hn : n ≤ 3) (z : Int) : ky V S z n < 2744 := by
  have h1 := ky_lt hV hS n z
  have h2 : 14 ^ n ≤ 14 ^ 3 := Nat.pow_le_pow_right (by omega) hn
  have h3 : (14 : Nat) ^ 3 = 2744 := by decide
  omega
/-- a fold over places -/
def fl (f : Nat → Int → Int) : Nat → Int → Int
  | 0, d => d
  | n + 1, d => f n (fl f n d)
/-- a part of a key -/
def prt (k n p : Nat) : Int := ((k / p14 (n - 1 - p) % 14 : Nat) : Int) - 1
def enF (t : List (Nat × Nat)) (n e : Nat) (d : Int) : Int := fl (fun p d => d * 31 + prt (t.getD e (0, 0)).1 n p) n d * 31 + ((t.getD e (0, 0)).2 : Int)
def mxE (t : List (Nat × Nat)) (n : Nat) (d : Int) : Int := fl (enF t n) t.length (d * 31 + (t.length : Int))
def mcF (V : Nat) (p : Nat → Nat) (d : Int) : Int := fl (fun r d => d * 31 + (fw p V r : Int)) (V + 1) (fl (fun w d => d * 31 + (p w : Int)) (V + 1) d)
def dg1 (V N : Nat) (S : List Nat) : Int := fl (fun j d => d * 31 + (S.getD j 0 : Int)) S.length (((58041 * 31 + (V : Int)) * 31 + (N : Int)) * 31 + (S.length : Int))
def dg2 (V N : Nat) (S : List Nat) (T : Nat → List (Nat × Nat)) : Int := fl (fun j d => mxE (T j) (j + 1) d) N (dg1 V N S)
def ofc (V : Nat) (S : List Nat) (T : Nat → List (Nat × Nat)) (j : Nat) : Nat := ky V S ((S.length : Int) - 1) j
def dg3 (V N : Nat) (S : List Nat) (T : Nat → List (Nat × Nat)) : Int := fl (fun j d => (d * 31 + (rfS (T j) (ofc V S T j) V : Int)) * 31 + (kd (fun w => gt (T j) (ofc V S T j * 14 + w + 1)) (V + 1) : Int)) N (dg2 V N S T)
def dgs (V N way num : Nat) (S : List Nat) (T : Nat → List (Nat × Nat)) (lk dr en : Nat) : Int := (((mcF V (chz V N way num S T (S.length : Int)) (dg3 V N S T) * 31 + (scr V N way num S T : Int)) * 31 + (lk : Int)) * 31 + (dr : Int)) * 31 + (en : Int)
theorem getD_at {t : List (Nat × Nat)} {e : Nat} {b : Nat × Nat} (h : t[e]? = some b) : t.getD e (0, 0) = b := by
  rw [List.getD_eq_getElem?_getD, h]; rfl
theorem getD_n {t : List Nat} {e b : Nat} (h : t[e]? = some b) : t.getD e 0 = b := by
  rw [List.getD_eq_getElem?_getD, h]; rfl
theorem two_pos (n : Nat) : 1 ≤ 2 ^ n := Nat.one_le_two_pow
end
section
theorem dX5_allOutcomes_0 : decode cX5_allOutcomes 0 = .ok (.iconst 1, 1) := by decide +kernel
theorem dX5_allOutcomes_1 : decode cX5_allOutcomes 1 = .ok (.aload_n 0, 1) := by decide +kernel
theorem dX5_allOutcomes_2 : decode cX5_allOutcomes 2 = .ok (.getfield 10, 3) := by decide +kernel
theorem dX5_allOutcomes_5 : decode cX5_allOutcomes 5 = .ok (.getfield 65, 3) := by decide +kernel
theorem dX5_allOutcomes_8 : decode cX5_allOutcomes 8 = .ok (.iconst 1, 1) := by decide +kernel
theorem dX5_allOutcomes_9 : decode cX5_allOutcomes 9 = .ok (.iadd, 1) := by decide +kernel
theorem dX5_allOutcomes_10 : decode cX5_allOutcomes 10 = .ok (.ishl, 1) := by decide +kernel
theorem dX5_allOutcomes_11 : decode cX5_allOutcomes 11 = .ok (.iconst 1, 1) := by decide +kernel
theorem dX5_allOutcomes_12 : decode cX5_allOutcomes 12 = .ok (.isub, 1) := by decide +kernel
theorem dX5_allOutcomes_13 : decode cX5_allOutcomes 13 = .ok (.ireturn, 1) := by decide +kernel
theorem dX5_draw_0 : decode cX5_draw 0 = .ok (.aload_n 0, 1) := by decide +kernel
theorem dX5_draw_1 : decode cX5_draw 1 = .ok (.aload_n 0, 1) := by decide +kernel
theorem dX5_draw_2 : decode cX5_draw 2 = .ok (.getfield 55, 3) := by decide +kernel
theorem dX5_draw_5 : decode cX5_draw 5 = .ok (.invokestatic 244, 3) := by decide +kernel
theorem dX5_draw_8 : decode cX5_draw 8 = .ok (.putfield 55, 3) := by decide +kernel
theorem dX5_draw_11 : decode cX5_draw 11 = .ok (.aload_n 0, 1) := by decide +kernel
theorem dX5_draw_12 : decode cX5_draw 12 = .ok (.dup, 1) := by decide +kernel
theorem dX5_draw_13 : decode cX5_draw 13 = .ok (.getfield 58, 3) := by decide +kernel
theorem dX5_draw_16 : decode cX5_draw 16 = .ok (.iconst 1, 1) := by decide +kernel
theorem dX5_draw_17 : decode cX5_draw 17 = .ok (.iadd, 1) := by decide +kernel
theorem dX5_draw_18 : decode cX5_draw 18 = .ok (.putfield 58, 3) := by decide +kernel
theorem dX5_draw_21 : decode cX5_draw 21 = .ok (.aload_n 0, 1) := by decide +kernel
theorem dX5_draw_22 : decode cX5_draw 22 = .ok (.getfield 21, 3) := by decide +kernel
theorem dX5_draw_25 : decode cX5_draw 25 = .ok (.aload_n 0, 1) := by decide +kernel
theorem dX5_draw_26 : decode cX5_draw 26 = .ok (.getfield 55, 3) := by decide +kernel
theorem dX5_draw_29 : decode cX5_draw 29 = .ok (.iload_n 1, 1) := by decide +kernel
theorem dX5_draw_30 : decode cX5_draw 30 = .ok (.invokevirtual 250, 3) := by decide +kernel
theorem dX5_draw_33 : decode cX5_draw 33 = .ok (.ireturn, 1) := by decide +kernel
theorem dX5_dropDoomed_0 : decode cX5_dropDoomed 0 = .ok (.iconst 0, 1) := by decide +kernel
theorem dX5_dropDoomed_1 : decode cX5_dropDoomed 1 = .ok (.istore_n 2, 1) := by decide +kernel
theorem dX5_dropDoomed_2 : decode cX5_dropDoomed 2 = .ok (.aload_n 0, 1) := by decide +kernel
theorem dX5_dropDoomed_3 : decode cX5_dropDoomed 3 = .ok (.getfield 10, 3) := by decide +kernel
theorem dX5_dropDoomed_6 : decode cX5_dropDoomed 6 = .ok (.iload_n 1, 1) := by decide +kernel
theorem dX5_dropDoomed_7 : decode cX5_dropDoomed 7 = .ok (.invokevirtual 131, 3) := by decide +kernel
theorem dX5_dropDoomed_10 : decode cX5_dropDoomed 10 = .ok (.getfield 135, 3) := by decide +kernel
theorem dX5_dropDoomed_13 : decode cX5_dropDoomed 13 = .ok (.iconst 1, 1) := by decide +kernel
theorem dX5_dropDoomed_14 : decode cX5_dropDoomed 14 = .ok (.isub, 1) := by decide +kernel
theorem dX5_dropDoomed_15 : decode cX5_dropDoomed 15 = .ok (.istore_n 3, 1) := by decide +kernel
theorem dX5_dropDoomed_16 : decode cX5_dropDoomed 16 = .ok (.iload_n 3, 1) := by decide +kernel
theorem dX5_dropDoomed_17 : decode cX5_dropDoomed 17 = .ok (.ifCond .lt 30, 3) := by decide +kernel
theorem dX5_dropDoomed_20 : decode cX5_dropDoomed 20 = .ok (.aload_n 0, 1) := by decide +kernel
theorem dX5_dropDoomed_21 : decode cX5_dropDoomed 21 = .ok (.getfield 43, 3) := by decide +kernel
theorem dX5_dropDoomed_24 : decode cX5_dropDoomed 24 = .ok (.iload_n 3, 1) := by decide +kernel
theorem dX5_dropDoomed_25 : decode cX5_dropDoomed 25 = .ok (.baload, 1) := by decide +kernel
theorem dX5_dropDoomed_26 : decode cX5_dropDoomed 26 = .ok (.ifCond .eq 15, 3) := by decide +kernel
theorem dX5_dropDoomed_29 : decode cX5_dropDoomed 29 = .ok (.aload_n 0, 1) := by decide +kernel
theorem dX5_dropDoomed_30 : decode cX5_dropDoomed 30 = .ok (.getfield 10, 3) := by decide +kernel
theorem dX5_dropDoomed_33 : decode cX5_dropDoomed 33 = .ok (.iload_n 1, 1) := by decide +kernel
theorem dX5_dropDoomed_34 : decode cX5_dropDoomed 34 = .ok (.iload_n 3, 1) := by decide +kernel
theorem dX5_dropDoomed_35 : decode cX5_dropDoomed 35 = .ok (.invokevirtual 306, 3) := by decide +kernel
theorem dX5_dropDoomed_38 : decode cX5_dropDoomed 38 = .ok (.iinc 2 1, 3) := by decide +kernel
theorem dX5_dropDoomed_41 : decode cX5_dropDoomed 41 = .ok (.iinc 3 (-1), 3) := by decide +kernel
theorem dX5_dropDoomed_44 : decode cX5_dropDoomed 44 = .ok (.goto (-28), 3) := by decide +kernel
theorem dX5_dropDoomed_47 : decode cX5_dropDoomed 47 = .ok (.iload_n 2, 1) := by decide +kernel
theorem dX5_dropDoomed_48 : decode cX5_dropDoomed 48 = .ok (.ireturn, 1) := by decide +kernel
theorem dX5_luckBehind_0 : decode cX5_luckBehind 0 = .ok (.iload_n 0, 1) := by decide +kernel
theorem dX5_luckBehind_1 : decode cX5_luckBehind 1 = .ok (.sipush 4621, 3) := by decide +kernel
theorem dX5_luckBehind_4 : decode cX5_luckBehind 4 = .ok (.imul, 1) := by decide +kernel
theorem dX5_luckBehind_5 : decode cX5_luckBehind 5 = .ok (.sipush 2777, 3) := by decide +kernel
theorem dX5_luckBehind_8 : decode cX5_luckBehind 8 = .ok (.iadd, 1) := by decide +kernel
theorem dX5_luckBehind_9 : decode cX5_luckBehind 9 = .ok (.sipush 10000, 3) := by decide +kernel
theorem dX5_luckBehind_12 : decode cX5_luckBehind 12 = .ok (.irem, 1) := by decide +kernel
theorem dX5_luckBehind_13 : decode cX5_luckBehind 13 = .ok (.ireturn, 1) := by decide +kernel
theorem dX5_mix_0 : decode cX5_mix 0 = .ok (.lload_n 0, 1) := by decide +kernel
theorem dX5_mix_1 : decode cX5_mix 1 = .ok (.ldc2_w 319, 3) := by decide +kernel
theorem dX5_mix_4 : decode cX5_mix 4 = .ok (.lmul, 1) := by decide +kernel
theorem dX5_mix_5 : decode cX5_mix 5 = .ok (.lload_n 2, 1) := by decide +kernel
theorem dX5_mix_6 : decode cX5_mix 6 = .ok (.ladd, 1) := by decide +kernel
theorem dX5_mix_7 : decode cX5_mix 7 = .ok (.lreturn, 1) := by decide +kernel
theorem dX5_mixChances_0 : decode cX5_mixChances 0 = .ok (.lload_n 1, 1) := by decide +kernel
theorem dX5_mixChances_1 : decode cX5_mixChances 1 = .ok (.lstore_n 3, 1) := by decide +kernel
theorem dX5_mixChances_2 : decode cX5_mixChances 2 = .ok (.aload_n 0, 1) := by decide +kernel
theorem dX5_mixChances_3 : decode cX5_mixChances 3 = .ok (.invokevirtual 183, 3) := by decide +kernel
theorem dX5_mixChances_6 : decode cX5_mixChances 6 = .ok (.iconst 0, 1) := by decide +kernel
theorem dX5_mixChances_7 : decode cX5_mixChances 7 = .ok (.istore 5, 2) := by decide +kernel
theorem dX5_mixChances_9 : decode cX5_mixChances 9 = .ok (.iload 5, 2) := by decide +kernel
theorem dX5_mixChances_11 : decode cX5_mixChances 11 = .ok (.aload_n 0, 1) := by decide +kernel
theorem dX5_mixChances_12 : decode cX5_mixChances 12 = .ok (.getfield 10, 3) := by decide +kernel
theorem dX5_mixChances_15 : decode cX5_mixChances 15 = .ok (.getfield 65, 3) := by decide +kernel
theorem dX5_mixChances_18 : decode cX5_mixChances 18 = .ok (.if_icmp .gt 25, 3) := by decide +kernel
theorem dX5_mixChances_21 : decode cX5_mixChances 21 = .ok (.lload_n 3, 1) := by decide +kernel
theorem dX5_mixChances_22 : decode cX5_mixChances 22 = .ok (.aload_n 0, 1) := by decide +kernel
theorem dX5_mixChances_23 : decode cX5_mixChances 23 = .ok (.getfield 21, 3) := by decide +kernel
theorem dX5_mixChances_26 : decode cX5_mixChances 26 = .ok (.getfield 186, 3) := by decide +kernel
theorem dX5_mixChances_29 : decode cX5_mixChances 29 = .ok (.iload 5, 2) := by decide +kernel
theorem dX5_mixChances_31 : decode cX5_mixChances 31 = .ok (.iaload, 1) := by decide +kernel
theorem dX5_mixChances_32 : decode cX5_mixChances 32 = .ok (.i2l, 1) := by decide +kernel
theorem dX5_mixChances_33 : decode cX5_mixChances 33 = .ok (.invokestatic 255, 3) := by decide +kernel
theorem dX5_mixChances_36 : decode cX5_mixChances 36 = .ok (.lstore_n 3, 1) := by decide +kernel
theorem dX5_mixChances_37 : decode cX5_mixChances 37 = .ok (.iinc 5 1, 3) := by decide +kernel
theorem dX5_mixChances_40 : decode cX5_mixChances 40 = .ok (.goto (-31), 3) := by decide +kernel
theorem dX5_mixChances_43 : decode cX5_mixChances 43 = .ok (.iconst 0, 1) := by decide +kernel
theorem dX5_mixChances_44 : decode cX5_mixChances 44 = .ok (.istore 5, 2) := by decide +kernel
theorem dX5_mixChances_46 : decode cX5_mixChances 46 = .ok (.iload 5, 2) := by decide +kernel
theorem dX5_mixChances_48 : decode cX5_mixChances 48 = .ok (.aload_n 0, 1) := by decide +kernel
theorem dX5_mixChances_49 : decode cX5_mixChances 49 = .ok (.getfield 10, 3) := by decide +kernel
theorem dX5_mixChances_52 : decode cX5_mixChances 52 = .ok (.getfield 65, 3) := by decide +kernel
theorem dX5_mixChances_55 : decode cX5_mixChances 55 = .ok (.if_icmp .gt 24, 3) := by decide +kernel
theorem dX5_mixChances_58 : decode cX5_mixChances 58 = .ok (.lload_n 3, 1) := by decide +kernel
theorem dX5_mixChances_59 : decode cX5_mixChances 59 = .ok (.aload_n 0, 1) := by decide +kernel
theorem dX5_mixChances_60 : decode cX5_mixChances 60 = .ok (.getfield 21, 3) := by decide +kernel
theorem dX5_mixChances_63 : decode cX5_mixChances 63 = .ok (.iload 5, 2) := by decide +kernel
theorem dX5_mixChances_65 : decode cX5_mixChances 65 = .ok (.invokevirtual 191, 3) := by decide +kernel
theorem dX5_mixChances_68 : decode cX5_mixChances 68 = .ok (.i2l, 1) := by decide +kernel
theorem dX5_mixChances_69 : decode cX5_mixChances 69 = .ok (.invokestatic 255, 3) := by decide +kernel
theorem dX5_mixChances_72 : decode cX5_mixChances 72 = .ok (.lstore_n 3, 1) := by decide +kernel
theorem dX5_mixChances_73 : decode cX5_mixChances 73 = .ok (.iinc 5 1, 3) := by decide +kernel
theorem dX5_mixChances_76 : decode cX5_mixChances 76 = .ok (.goto (-30), 3) := by decide +kernel
theorem dX5_mixChances_79 : decode cX5_mixChances 79 = .ok (.lload_n 3, 1) := by decide +kernel
theorem dX5_mixChances_80 : decode cX5_mixChances 80 = .ok (.lreturn, 1) := by decide +kernel
theorem dX5_mixEntries_0 : decode cX5_mixEntries 0 = .ok (.aload_n 0, 1) := by decide +kernel
theorem dX5_mixEntries_1 : decode cX5_mixEntries 1 = .ok (.getfield 10, 3) := by decide +kernel
theorem dX5_mixEntries_4 : decode cX5_mixEntries 4 = .ok (.iload_n 3, 1) := by decide +kernel
theorem dX5_mixEntries_5 : decode cX5_mixEntries 5 = .ok (.invokevirtual 131, 3) := by decide +kernel
theorem dX5_mixEntries_8 : decode cX5_mixEntries 8 = .ok (.astore 4, 2) := by decide +kernel
theorem dX5_mixEntries_10 : decode cX5_mixEntries 10 = .ok (.lload_n 1, 1) := by decide +kernel
theorem dX5_mixEntries_11 : decode cX5_mixEntries 11 = .ok (.aload 4, 2) := by decide +kernel
theorem dX5_mixEntries_13 : decode cX5_mixEntries 13 = .ok (.getfield 135, 3) := by decide +kernel
theorem dX5_mixEntries_16 : decode cX5_mixEntries 16 = .ok (.i2l, 1) := by decide +kernel
theorem dX5_mixEntries_17 : decode cX5_mixEntries 17 = .ok (.invokestatic 255, 3) := by decide +kernel
theorem dX5_mixEntries_20 : decode cX5_mixEntries 20 = .ok (.lstore 5, 2) := by decide +kernel
theorem dX5_mixEntries_22 : decode cX5_mixEntries 22 = .ok (.iconst 0, 1) := by decide +kernel
theorem dX5_mixEntries_23 : decode cX5_mixEntries 23 = .ok (.istore 7, 2) := by decide +kernel
theorem dX5_mixEntries_25 : decode cX5_mixEntries 25 = .ok (.iload 7, 2) := by decide +kernel
theorem dX5_mixEntries_27 : decode cX5_mixEntries 27 = .ok (.aload 4, 2) := by decide +kernel
theorem dX5_mixEntries_29 : decode cX5_mixEntries 29 = .ok (.getfield 135, 3) := by decide +kernel
theorem dX5_mixEntries_32 : decode cX5_mixEntries 32 = .ok (.if_icmp .ge 63, 3) := by decide +kernel
theorem dX5_mixEntries_35 : decode cX5_mixEntries 35 = .ok (.iconst 0, 1) := by decide +kernel
theorem dX5_mixEntries_36 : decode cX5_mixEntries 36 = .ok (.istore 8, 2) := by decide +kernel
theorem dX5_mixEntries_38 : decode cX5_mixEntries 38 = .ok (.iload 8, 2) := by decide +kernel
theorem dX5_mixEntries_40 : decode cX5_mixEntries 40 = .ok (.iload_n 3, 1) := by decide +kernel
theorem dX5_mixEntries_41 : decode cX5_mixEntries 41 = .ok (.if_icmp .ge 32, 3) := by decide +kernel
theorem dX5_mixEntries_44 : decode cX5_mixEntries 44 = .ok (.lload 5, 2) := by decide +kernel
theorem dX5_mixEntries_46 : decode cX5_mixEntries 46 = .ok (.aload_n 0, 1) := by decide +kernel
theorem dX5_mixEntries_47 : decode cX5_mixEntries 47 = .ok (.aload 4, 2) := by decide +kernel
theorem dX5_mixEntries_49 : decode cX5_mixEntries 49 = .ok (.getfield 140, 3) := by decide +kernel
theorem dX5_mixEntries_52 : decode cX5_mixEntries 52 = .ok (.iload 7, 2) := by decide +kernel
theorem dX5_mixEntries_54 : decode cX5_mixEntries 54 = .ok (.iaload, 1) := by decide +kernel
theorem dX5_mixEntries_55 : decode cX5_mixEntries 55 = .ok (.iload_n 3, 1) := by decide +kernel
theorem dX5_mixEntries_56 : decode cX5_mixEntries 56 = .ok (.iload 8, 2) := by decide +kernel
theorem dX5_mixEntries_58 : decode cX5_mixEntries 58 = .ok (.invokevirtual 143, 3) := by decide +kernel
theorem dX5_mixEntries_61 : decode cX5_mixEntries 61 = .ok (.i2l, 1) := by decide +kernel
theorem dX5_mixEntries_62 : decode cX5_mixEntries 62 = .ok (.invokestatic 255, 3) := by decide +kernel
theorem dX5_mixEntries_65 : decode cX5_mixEntries 65 = .ok (.lstore 5, 2) := by decide +kernel
theorem dX5_mixEntries_67 : decode cX5_mixEntries 67 = .ok (.iinc 8 1, 3) := by decide +kernel
theorem dX5_mixEntries_70 : decode cX5_mixEntries 70 = .ok (.goto (-32), 3) := by decide +kernel
theorem dX5_mixEntries_73 : decode cX5_mixEntries 73 = .ok (.lload 5, 2) := by decide +kernel
theorem dX5_mixEntries_75 : decode cX5_mixEntries 75 = .ok (.aload 4, 2) := by decide +kernel
theorem dX5_mixEntries_77 : decode cX5_mixEntries 77 = .ok (.getfield 149, 3) := by decide +kernel
theorem dX5_mixEntries_80 : decode cX5_mixEntries 80 = .ok (.iload 7, 2) := by decide +kernel
theorem dX5_mixEntries_82 : decode cX5_mixEntries 82 = .ok (.iaload, 1) := by decide +kernel
theorem dX5_mixEntries_83 : decode cX5_mixEntries 83 = .ok (.i2l, 1) := by decide +kernel
theorem dX5_mixEntries_84 : decode cX5_mixEntries 84 = .ok (.invokestatic 255, 3) := by decide +kernel
theorem dX5_mixEntries_87 : decode cX5_mixEntries 87 = .ok (.lstore 5, 2) := by decide +kernel
theorem dX5_mixEntries_89 : decode cX5_mixEntries 89 = .ok (.iinc 7 1, 3) := by decide +kernel
theorem dX5_mixEntries_92 : decode cX5_mixEntries 92 = .ok (.goto (-67), 3) := by decide +kernel
theorem dX5_mixEntries_95 : decode cX5_mixEntries 95 = .ok (.lload 5, 2) := by decide +kernel
theorem dX5_mixEntries_97 : decode cX5_mixEntries 97 = .ok (.lreturn, 1) := by decide +kernel
theorem dX5_outcomeOf_0 : decode cX5_outcomeOf 0 = .ok (.iload_n 1, 1) := by decide +kernel
theorem dX5_outcomeOf_1 : decode cX5_outcomeOf 1 = .ok (.tableswitch 70 1 4 #[31, 40, 42, 55], 31) := by decide +kernel
theorem dX5_outcomeOf_43 : decode cX5_outcomeOf 43 = .ok (.aload_n 0, 1) := by decide +kernel
theorem dX5_outcomeOf_44 : decode cX5_outcomeOf 44 = .ok (.aload_n 0, 1) := by decide +kernel
theorem dX5_outcomeOf_45 : decode cX5_outcomeOf 45 = .ok (.getfield 21, 3) := by decide +kernel
theorem dX5_outcomeOf_48 : decode cX5_outcomeOf 48 = .ok (.iload_n 2, 1) := by decide +kernel
theorem dX5_outcomeOf_49 : decode cX5_outcomeOf 49 = .ok (.invokevirtual 313, 3) := by decide +kernel
theorem dX5_outcomeOf_52 : decode cX5_outcomeOf 52 = .ok (.invokevirtual 316, 3) := by decide +kernel
theorem dX5_outcomeOf_55 : decode cX5_outcomeOf 55 = .ok (.ireturn, 1) := by decide +kernel
theorem dX5_partOf_0 : decode cX5_partOf 0 = .ok (.iload_n 1, 1) := by decide +kernel
theorem dX5_partOf_1 : decode cX5_partOf 1 = .ok (.getstatic 284, 3) := by decide +kernel
theorem dX5_partOf_4 : decode cX5_partOf 4 = .ok (.iload_n 2, 1) := by decide +kernel
theorem dX5_partOf_5 : decode cX5_partOf 5 = .ok (.iconst 1, 1) := by decide +kernel
theorem dX5_partOf_6 : decode cX5_partOf 6 = .ok (.isub, 1) := by decide +kernel
theorem dX5_partOf_7 : decode cX5_partOf 7 = .ok (.iload_n 3, 1) := by decide +kernel
theorem dX5_partOf_8 : decode cX5_partOf 8 = .ok (.isub, 1) := by decide +kernel
theorem dX5_partOf_9 : decode cX5_partOf 9 = .ok (.iaload, 1) := by decide +kernel
theorem dX5_partOf_10 : decode cX5_partOf 10 = .ok (.idiv, 1) := by decide +kernel
theorem dX5_partOf_11 : decode cX5_partOf 11 = .ok (.bipush 14, 2) := by decide +kernel
theorem dX5_partOf_13 : decode cX5_partOf 13 = .ok (.irem, 1) := by decide +kernel
theorem dX5_partOf_14 : decode cX5_partOf 14 = .ok (.istore 4, 2) := by decide +kernel
theorem dX5_partOf_16 : decode cX5_partOf 16 = .ok (.iload 4, 2) := by decide +kernel
theorem dX5_partOf_18 : decode cX5_partOf 18 = .ok (.iconst 1, 1) := by decide +kernel
theorem dX5_partOf_19 : decode cX5_partOf 19 = .ok (.isub, 1) := by decide +kernel
theorem dX5_partOf_20 : decode cX5_partOf 20 = .ok (.ireturn, 1) := by decide +kernel
theorem dX5_takeByStep_0 : decode cX5_takeByStep 0 = .ok (.aload_n 0, 1) := by decide +kernel
theorem dX5_takeByStep_1 : decode cX5_takeByStep 1 = .ok (.invokevirtual 183, 3) := by decide +kernel
theorem dX5_takeByStep_4 : decode cX5_takeByStep 4 = .ok (.aload_n 0, 1) := by decide +kernel
theorem dX5_takeByStep_5 : decode cX5_takeByStep 5 = .ok (.iload_n 1, 1) := by decide +kernel
theorem dX5_takeByStep_6 : decode cX5_takeByStep 6 = .ok (.iload_n 2, 1) := by decide +kernel
theorem dX5_takeByStep_7 : decode cX5_takeByStep 7 = .ok (.invokevirtual 310, 3) := by decide +kernel
theorem dX5_takeByStep_10 : decode cX5_takeByStep 10 = .ok (.istore_n 3, 1) := by decide +kernel
theorem dX5_takeByStep_11 : decode cX5_takeByStep 11 = .ok (.iload_n 3, 1) := by decide +kernel
theorem dX5_takeByStep_12 : decode cX5_takeByStep 12 = .ok (.aload_n 0, 1) := by decide +kernel
theorem dX5_takeByStep_13 : decode cX5_takeByStep 13 = .ok (.getfield 10, 3) := by decide +kernel
theorem dX5_takeByStep_16 : decode cX5_takeByStep 16 = .ok (.getfield 65, 3) := by decide +kernel
theorem dX5_takeByStep_19 : decode cX5_takeByStep 19 = .ok (.if_icmp .ne 11, 3) := by decide +kernel
theorem dX5_takeByStep_22 : decode cX5_takeByStep 22 = .ok (.aload_n 0, 1) := by decide +kernel
theorem dX5_takeByStep_23 : decode cX5_takeByStep 23 = .ok (.iconst 1, 1) := by decide +kernel
theorem dX5_takeByStep_24 : decode cX5_takeByStep 24 = .ok (.putfield 61, 3) := by decide +kernel
theorem dX5_takeByStep_27 : decode cX5_takeByStep 27 = .ok (.goto 8, 3) := by decide +kernel
theorem dX5_takeByStep_30 : decode cX5_takeByStep 30 = .ok (.aload_n 0, 1) := by decide +kernel
theorem dX5_takeByStep_31 : decode cX5_takeByStep 31 = .ok (.iload_n 3, 1) := by decide +kernel
theorem dX5_takeByStep_32 : decode cX5_takeByStep 32 = .ok (.invokevirtual 97, 3) := by decide +kernel
theorem dX5_takeByStep_35 : decode cX5_takeByStep 35 = .ok (.return_, 1) := by decide +kernel
theorem dX5_totalBehind_0 : decode cX5_totalBehind 0 = .ok (.aload_n 0, 1) := by decide +kernel
theorem dX5_totalBehind_1 : decode cX5_totalBehind 1 = .ok (.getfield 21, 3) := by decide +kernel
theorem dX5_totalBehind_4 : decode cX5_totalBehind 4 = .ok (.aload_n 0, 1) := by decide +kernel
theorem dX5_totalBehind_5 : decode cX5_totalBehind 5 = .ok (.getfield 10, 3) := by decide +kernel
theorem dX5_totalBehind_8 : decode cX5_totalBehind 8 = .ok (.iload_n 1, 1) := by decide +kernel
theorem dX5_totalBehind_9 : decode cX5_totalBehind 9 = .ok (.invokevirtual 131, 3) := by decide +kernel
theorem dX5_totalBehind_12 : decode cX5_totalBehind 12 = .ok (.aload_n 0, 1) := by decide +kernel
theorem dX5_totalBehind_13 : decode cX5_totalBehind 13 = .ok (.aload_n 0, 1) := by decide +kernel
theorem dX5_totalBehind_14 : decode cX5_totalBehind 14 = .ok (.getfield 51, 3) := by decide +kernel
theorem dX5_totalBehind_17 : decode cX5_totalBehind 17 = .ok (.iconst 1, 1) := by decide +kernel
theorem dX5_totalBehind_18 : decode cX5_totalBehind 18 = .ok (.isub, 1) := by decide +kernel
theorem dX5_totalBehind_19 : decode cX5_totalBehind 19 = .ok (.iload_n 1, 1) := by decide +kernel
theorem dX5_totalBehind_20 : decode cX5_totalBehind 20 = .ok (.iconst 1, 1) := by decide +kernel
theorem dX5_totalBehind_21 : decode cX5_totalBehind 21 = .ok (.isub, 1) := by decide +kernel
theorem dX5_totalBehind_22 : decode cX5_totalBehind 22 = .ok (.invokevirtual 202, 3) := by decide +kernel
theorem dX5_totalBehind_25 : decode cX5_totalBehind 25 = .ok (.invokevirtual 287, 3) := by decide +kernel
theorem dX5_totalBehind_28 : decode cX5_totalBehind 28 = .ok (.iload_n 2, 1) := by decide +kernel
theorem dX5_totalBehind_29 : decode cX5_totalBehind 29 = .ok (.ifCond .ne 14, 3) := by decide +kernel
theorem dX5_totalBehind_32 : decode cX5_totalBehind 32 = .ok (.aload_n 0, 1) := by decide +kernel
theorem dX5_totalBehind_33 : decode cX5_totalBehind 33 = .ok (.getfield 21, 3) := by decide +kernel
theorem dX5_totalBehind_36 : decode cX5_totalBehind 36 = .ok (.getfield 291, 3) := by decide +kernel
theorem dX5_totalBehind_39 : decode cX5_totalBehind 39 = .ok (.l2i, 1) := by decide +kernel
theorem dX5_totalBehind_40 : decode cX5_totalBehind 40 = .ok (.goto 10, 3) := by decide +kernel
theorem dX5_totalBehind_43 : decode cX5_totalBehind 43 = .ok (.aload_n 0, 1) := by decide +kernel
theorem dX5_totalBehind_44 : decode cX5_totalBehind 44 = .ok (.getfield 21, 3) := by decide +kernel
theorem dX5_totalBehind_47 : decode cX5_totalBehind 47 = .ok (.getfield 295, 3) := by decide +kernel
theorem dX5_totalBehind_50 : decode cX5_totalBehind 50 = .ok (.ireturn, 1) := by decide +kernel
set_option maxHeartbeats 4000000 in
set_option maxRecDepth 100000 in
theorem mX5_totalBehind0 (l : Launch) (D : va_G) (κ a : Nat → Nat) (ε : Nat) (V N way num m : Nat) (S : List Nat) (T : Nat → List (Nat × Nat)) (u : US) (hA : AB V N way num m S T u) (n : Nat) (hn : 1 ≤ n ∧ n ≤ N) : Ct (W0 κ a) l D κ ε yX5_totalBehind cX5_totalBehind 3 (some .int) 2 48 0 0 u [.ref (a 0), .int (iI (n : Int)), .int (iI 0)] (fun v u' => v = some (.int (iI (rfS (T (n - 1)) (ky V S ((S.length : Int) - 1) (n - 1)) V : Int))) ∧ Fr [8, 9] [10] u u') := by
  obtain ⟨⟨hV, hN, hway, hnum, hm, hSl, hSV⟩, eV, eN, ew, en, ⟨eS, hS⟩, hT⟩ := id hA
  refine Ct.of (own := RX5) rfl (by decide +kernel) (Nat.le_of_ble_eq_true rfl) rfl (fun Γ h => ?_)
  refine w_aload_n h (pc := 0) dX5_totalBehind_0 rfl ?_
  refine g0_reckoner h (pc := 1) wm_20 dX5_totalBehind_1 ?_
  refine w_aload_n h (pc := 4) dX5_totalBehind_4 rfl ?_
  refine g0_ledger h (pc := 5) wm_16 dX5_totalBehind_5 ?_
  refine w_iload_n h (pc := 8) dX5_totalBehind_8 rfl ?_
  refine w_callV1 h (pc := 9) (mX0_countsOf l D κ a ε u n (by omega)) 1 rfl rfl (gdV wm_269 wm_120 wm_121 wm_15 wm_122) (by decide +kernel) ⟨(Nat.le_of_ble_eq_true rfl), (Nat.le_of_ble_eq_true rfl)⟩ ⟨(Nat.le_of_ble_eq_true rfl), (Nat.le_of_ble_eq_true rfl)⟩ (fun _ _ _ => ⟨rfl, rfl⟩) (Nat.le_of_ble_eq_true rfl) dX5_totalBehind_9 (fun v1 u1 hp1 => ?_)
  obtain ⟨rfl, e1⟩ := hp1
  obtain rfl := e1.symm
  simp only [Option.toList_some, List.cons_append, List.nil_append]
  refine w_aload_n h (pc := 12) dX5_totalBehind_12 rfl ?_
  refine w_aload_n h (pc := 13) dX5_totalBehind_13 rfl ?_
  refine g0_length h (pc := 14) eS wm_33 dX5_totalBehind_14 ?_
  refine w_iconst h (pc := 17) dX5_totalBehind_17 ?_
  refine w_isub h (pc := 18) dX5_totalBehind_18 ?_
  refine w_iload_n h (pc := 19) dX5_totalBehind_19 rfl ?_
  refine w_iconst h (pc := 20) dX5_totalBehind_20 ?_
  refine w_isub h (pc := 21) dX5_totalBehind_21 ?_
  rw [show ((n : Int) - 1) = ((n - 1 : Nat) : Int) by omega]
  refine w_callV2 h (pc := 22) (mX5_keyUpTo l D κ a ε V N way num m S T u hA ((S.length : Int) - 1) (by omega) (n - 1) (by omega)) 0 rfl rfl (gdV wm_170 wm_171 wm_172 wm_2 wm_173) (by decide +kernel) ⟨(Nat.le_of_ble_eq_true rfl), (Nat.le_of_ble_eq_true rfl)⟩ ⟨(Nat.le_of_ble_eq_true rfl), (Nat.le_of_ble_eq_true rfl)⟩ (fun _ _ _ => ⟨rfl, rfl⟩) (Nat.le_of_ble_eq_true rfl) dX5_totalBehind_22 (fun v2 u2 hp2 => ?_)
  obtain ⟨rfl, e2⟩ := hp2
  obtain rfl := e2.symm
  simp only [Option.toList_some, List.cons_append, List.nil_append]
  refine w_callV2 h (pc := 25) (mX1_gather l D κ a ε V m u hV (by omega) (n - 1) (by omega) (T (n - 1)) (hT (n - 1) (by omega)).1 (hT (n - 1) (by omega)).2 (ky V S ((S.length : Int) - 1) (n - 1)) (ky_3 hV hSV (by omega) _)) 2 rfl rfl (gdV wm_281 wm_282 wm_283 wm_19 wm_284) (by decide +kernel) ⟨(Nat.le_of_ble_eq_true rfl), (Nat.le_of_ble_eq_true rfl)⟩ ⟨(Nat.le_of_ble_eq_true rfl), (Nat.le_of_ble_eq_true rfl)⟩ (fun _ _ _ => ⟨rfl, rfl⟩) (Nat.le_of_ble_eq_true rfl) dX5_totalBehind_25 (fun v3 u3 hp3 => ?_)
  obtain ⟨rfl, hF3, hO3, hS2, hK2⟩ := hp3
  simp only [Option.toList_none, List.nil_append]
  refine w_iload_n h (pc := 28) dX5_totalBehind_28 rfl ?_
  refine w_if_ne h (pc := 29) (tgt := 43) dX5_totalBehind_29 (by decide) (by omega) (fun c29 => by exfalso; omega) (fun c29 => ?_)
  refine w_aload_n h (pc := 32) dX5_totalBehind_32 rfl ?_
  refine g0_reckoner h (pc := 33) wm_20 dX5_totalBehind_33 ?_
  refine g2_sum h (pc := 36) hS2 wm_279 dX5_totalBehind_36 ?_
  refine w_l2i h (pc := 39) dX5_totalBehind_39 ?_
  refine w_goto h (pc := 40) (tgt := 50) dX5_totalBehind_40 (by decide) ?_
  exact w_iret h (pc := 50) (ty := .int) rfl rfl dX5_totalBehind_50 (Nat.le_of_ble_eq_true rfl) (Nat.le_of_ble_eq_true rfl) ⟨rfl, hF3⟩

set_option maxHeartbeats 4000000 in
set_option maxRecDepth 100000 in
theorem mX5_totalBehind1 (l : Launch) (D : va_G) (κ a : Nat → Nat) (ε : Nat) (V N way num m : Nat) (S : List Nat) (T : Nat → List (Nat × Nat)) (u : US) (hA : AB V N way num m S T u) (n : Nat) (hn : 1 ≤ n ∧ n ≤ N) : Ct (W0 κ a) l D κ ε yX5_totalBehind cX5_totalBehind 3 (some .int) 2 48 0 0 u [.ref (a 0), .int (iI (n : Int)), .int (iI 1)] (fun v u' => v = some (.int (iI (kd (fun w => gt (T (n - 1)) (ky V S ((S.length : Int) - 1) (n - 1) * 14 + w + 1)) (V + 1) : Int))) ∧ Fr [8, 9] [10] u u') := by
  obtain ⟨⟨hV, hN, hway, hnum, hm, hSl, hSV⟩, eV, eN, ew, en, ⟨eS, hS⟩, hT⟩ := id hA
  refine Ct.of (own := RX5) rfl (by decide +kernel) (Nat.le_of_ble_eq_true rfl) rfl (fun Γ h => ?_)
  refine w_aload_n h (pc := 0) dX5_totalBehind_0 rfl ?_
  refine g0_reckoner h (pc := 1) wm_20 dX5_totalBehind_1 ?_
  refine w_aload_n h (pc := 4) dX5_totalBehind_4 rfl ?_
  refine g0_ledger h (pc := 5) wm_16 dX5_totalBehind_5 ?_
  refine w_iload_n h (pc := 8) dX5_totalBehind_8 rfl ?_
  refine w_callV1 h (pc := 9) (mX0_countsOf l D κ a ε u n (by omega)) 1 rfl rfl (gdV wm_269 wm_120 wm_121 wm_15 wm_122) (by decide +kernel) ⟨(Nat.le_of_ble_eq_true rfl), (Nat.le_of_ble_eq_true rfl)⟩ ⟨(Nat.le_of_ble_eq_true rfl), (Nat.le_of_ble_eq_true rfl)⟩ (fun _ _ _ => ⟨rfl, rfl⟩) (Nat.le_of_ble_eq_true rfl) dX5_totalBehind_9 (fun v1 u1 hp1 => ?_)
  obtain ⟨rfl, e1⟩ := hp1
  obtain rfl := e1.symm
  simp only [Option.toList_some, List.cons_append, List.nil_append]
  refine w_aload_n h (pc := 12) dX5_totalBehind_12 rfl ?_
  refine w_aload_n h (pc := 13) dX5_totalBehind_13 rfl ?_
  refine g0_length h (pc := 14) eS wm_33 dX5_totalBehind_14 ?_
  refine w_iconst h (pc := 17) dX5_totalBehind_17 ?_
  refine w_isub h (pc := 18) dX5_totalBehind_18 ?_
  refine w_iload_n h (pc := 19) dX5_totalBehind_19 rfl ?_
  refine w_iconst h (pc := 20) dX5_totalBehind_20 ?_
  refine w_isub h (pc := 21) dX5_totalBehind_21 ?_
  rw [show ((n : Int) - 1) = ((n - 1 : Nat) : Int) by omega]
  refine w_callV2 h (pc := 22) (mX5_keyUpTo l D κ a ε V N way num m S T u hA ((S.length : Int) - 1) (by omega) (n - 1) (by omega)) 0 rfl rfl (gdV wm_170 wm_171 wm_172 wm_2 wm_173) (by decide +kernel) ⟨(Nat.le_of_ble_eq_true rfl), (Nat.le_of_ble_eq_true rfl)⟩ ⟨(Nat.le_of_ble_eq_true rfl), (Nat.le_of_ble_eq_true rfl)⟩ (fun _ _ _ => ⟨rfl, rfl⟩) (Nat.le_of_ble_eq_true rfl) dX5_totalBehind_22 (fun v2 u2 hp2 => ?_)
  obtain ⟨rfl, e2⟩ := hp2
  obtain rfl := e2.symm
  simp only [Option.toList_some, List.cons_append, List.nil_append]
  refine w_callV2 h (pc := 25) (mX1_gather l D κ a ε V m u hV (by omega) (n - 1) (by omega) (T (n - 1)) (hT (n - 1) (by omega)).1 (hT (n - 1) (by omega)).2 (ky V S ((S.length : Int) - 1) (n - 1)) (ky_3 hV hSV (by omega) _)) 2 rfl rfl (gdV wm_281 wm_282 wm_283 wm_19 wm_284) (by decide +kernel) ⟨(Nat.le_of_ble_eq_true rfl), (Nat.le_of_ble_eq_true rfl)⟩ ⟨(Nat.le_of_ble_eq_true rfl), (Nat.le_of_ble_eq_true rfl)⟩ (fun _ _ _ => ⟨rfl, rfl⟩) (Nat.le_of_ble_eq_true rfl) dX5_totalBehind_25 (fun v3 u3 hp3 => ?_)
  obtain ⟨rfl, hF3, hO3, hS2, hK2⟩ := hp3
  simp only [Option.toList_none, List.nil_append]
  refine w_iload_n h (pc := 28) dX5_totalBehind_28 rfl ?_
  refine w_if_ne h (pc := 29) (tgt := 43) dX5_totalBehind_29 (by decide) (by omega) (fun c29 => ?_) (fun c29 => by exfalso; omega)
  refine w_aload_n h (pc := 43) dX5_totalBehind_43 rfl ?_
  refine g0_reckoner h (pc := 44) wm_20 dX5_totalBehind_44 ?_
  refine g2_kinds h (pc := 47) hK2 wm_280 dX5_totalBehind_47 ?_
  exact w_iret h (pc := 50) (ty := .int) rfl rfl dX5_totalBehind_50 (Nat.le_of_ble_eq_true rfl) (Nat.le_of_ble_eq_true rfl) ⟨rfl, hF3⟩

set_option maxHeartbeats 4000000 in
set_option maxRecDepth 100000 in
theorem mX5_dropDoomed (l : Launch) (D : va_G) (κ a : Nat → Nat) (ε : Nat) (V N way num m : Nat) (S : List Nat) (T : Nat → List (Nat × Nat)) (u : US) (hA : AB V N way num m S T u) (n : Nat) (hn : 2 ≤ n ∧ n ≤ N) (dm : Nat) (hdm : dm = 0 ∨ dm = 1) (hd : ∀ e, e < (T (n - 1)).length → u.2 5 e = (dm : Int)) : Ct (W0 κ a) l D κ ε yX5_dropDoomed cX5_dropDoomed 4 (some .int) 5 130 0 0 u [.ref (a 0), .int (iI (n : Int))] (fun v u' => v = some (.int (iI ((dm * (T (n - 1)).length : Nat) : Int))) ∧ Fr tS tG u u' ∧ ∃ T', AB V N way num m S T' u' ∧ (dm = 0 → ∀ i, i < 4 → T' i = T i) ∧ (dm = 1 → T' (n - 1) = [])) := by
  obtain ⟨⟨hV, hN, hway, hnum, hm, hSl, hSV⟩, eV, eN, ew, en, ⟨eS, hS⟩, hT⟩ := id hA
  have hT0 := hT (n - 1) (by omega)
  have hlen := hT0.2.2.2.1
  have hs0 := hT0.2.1
  refine Ct.of (own := RX5) rfl (by decide +kernel) (Nat.le_of_ble_eq_true rfl) rfl (fun Γ h => ?_)
  refine w_iconst h (pc := 0) dX5_dropDoomed_0 ?_
  refine w_istore_n h (pc := 1) dX5_dropDoomed_1 (by decide) ?_
  refine w_aload_n h (pc := 2) dX5_dropDoomed_2 rfl ?_
  refine g0_ledger h (pc := 3) wm_16 dX5_dropDoomed_3 ?_
  refine w_iload_n h (pc := 6) dX5_dropDoomed_6 rfl ?_
  refine w_callV1 h (pc := 7) (mX0_countsOf l D κ a ε u n (by omega)) 1 rfl rfl (gdV wm_269 wm_120 wm_121 wm_15 wm_122) (by decide +kernel) ⟨(Nat.le_of_ble_eq_true rfl), (Nat.le_of_ble_eq_true rfl)⟩ ⟨(Nat.le_of_ble_eq_true rfl), (Nat.le_of_ble_eq_true rfl)⟩ (fun _ _ _ => ⟨rfl, rfl⟩) (Nat.le_of_ble_eq_true rfl) dX5_dropDoomed_7 (fun v1 u1 hp1 => ?_)
  obtain ⟨rfl, e1⟩ := hp1
  obtain rfl := e1.symm
  simp only [Option.toList_some, List.cons_append, List.nil_append]
  refine gT_size h (pc := 10) (by omega) hT0.1.1 wm_266 dX5_dropDoomed_10 ?_
  refine w_iconst h (pc := 13) dX5_dropDoomed_13 ?_
  refine w_isub h (pc := 14) dX5_dropDoomed_14 ?_
  refine w_istore_n h (pc := 15) dX5_dropDoomed_15 (by decide) ?_
  have lp16 : ∀ (n9 j : Nat) (z g : Int) (w : US), z + 1 = (j : Int) → j < n9 → j ≤ (T (n - 1)).length → g = (dm : Int) * ((T (n - 1)).length - j) → Fr tS tG u w → (∃ T9, TA V m w T9 ∧ (∀ i, i < 4 → i ≠ n - 1 → T9 i = T i) ∧ T9 (n - 1) = (if dm = 1 then (T (n - 1)).take j else T (n - 1))) → WW Γ 4 w 16 [(0, .ref (a 0)), (1, .int (iI (n : Int))), (2, .int (iI g)), (3, .int (iI z))] [] := by
    intro n9
    induction n9 with
    | zero => intro j z g w hz hn9 hj hg hF hT9; exfalso; omega
    | succ n9 ih =>
      intro j z g w hz hn9 hj hg hF hT9
      obtain ⟨T9, hT9, hs9, ht9⟩ := hT9
      refine w_iload_n h (pc := 16) dX5_dropDoomed_16 rfl ?_
      refine w_if_lt h (pc := 17) (tgt := 47) dX5_dropDoomed_17 (by decide) (by omega) (fun c17 => ?_) (fun c17 => ?_)
      · have ej : j = 0 := by omega
        subst ej
        have hgz : g = ((dm * (T (n - 1)).length : Nat) : Int) := by rw [hg]; rcases hdm with e | e <;> rw [e] <;> omega
        refine w_iload_n h (pc := 47) dX5_dropDoomed_47 rfl ?_
        exact w_iret h (pc := 48) (ty := .int) rfl rfl dX5_dropDoomed_48 (Nat.le_of_ble_eq_true rfl) (Nat.le_of_ble_eq_true rfl) ⟨by rw [hgz], hF, T9, hA.setT hF hT9 (by omega), fun e i hi => by by_cases q : i = n - 1; rw [q, ht9, if_neg (by omega)]; exact hs9 i hi q, fun e => by rw [ht9, if_pos e]; rfl⟩
      · obtain ⟨y, hy⟩ : ∃ y : Nat, y + 1 = j := ⟨j - 1, by omega⟩
        have hdz : w.2 5 z.toNat = (dm : Int) := by rw [hF.2 5 (by simp [tG])]; exact hd _ (by omega)
        refine w_aload_n h (pc := 20) dX5_dropDoomed_20 rfl ?_
        refine g0_doomed h (pc := 21) wm_30 dX5_dropDoomed_21 ?_
        refine w_iload_n h (pc := 24) dX5_dropDoomed_24 rfl ?_
        refine ld_doomed h (pc := 25) (by omega) hdz dX5_dropDoomed_25 ?_
        refine w_if_eq h (pc := 26) (tgt := 41) dX5_dropDoomed_26 (by decide) (by omega) (fun c26 => ?_) (fun c26 => ?_)
        · refine w_iinc h (pc := 41) dX5_dropDoomed_41 rfl (by decide) ?_
          refine w_goto h (pc := 44) (tgt := 16) dX5_dropDoomed_44 (by decide) ?_
          first
          | exact WW.sub (by rfl) (ih y (z + (-1)) g _ (by omega) (by omega) (by omega) (by rw [hg, show dm = 0 by omega]; omega) hF ⟨T9, hT9, hs9, by rw [ht9, if_neg (by omega), if_neg (by omega)]⟩)
          | exact WW.sub (by rfl) (ih y _ (g + 1) _ (by omega) (by omega) (by omega) (by rw [hg, show dm = 1 by omega]; omega) (hF.tr hF2) ⟨T2, hT2, fun i hi hne => by rw [hs2 i hi, if_neg (by omega)]; exact hs9 i hi hne, by rw [hs2 (n - 1) (by omega), if_pos (by omega), if_pos (by omega), ht9, if_pos (by omega), ← hy]; exact del_take hs0 hb⟩)
        · obtain ⟨b, hb⟩ := getN (t := T (n - 1)) (j := y) (by omega)
          have ht8 : T9 (n - 1) = (T (n - 1)).take j := by rw [ht9, if_pos (by omega)]
          have hb9 : (T9 (n - 1))[y]? = some b := by rw [ht8, List.getElem?_take, if_pos (by omega)]; exact hb
          have hbw := (hT9 (n - 1) (by omega)).2.1.idx hb9
          obtain rfl : z = ((bw (T9 (n - 1)) b.1 : Nat) : Int) := by omega
          refine w_aload_n h (pc := 29) dX5_dropDoomed_29 rfl ?_
          refine g0_ledger h (pc := 30) wm_16 dX5_dropDoomed_30 ?_
          refine w_iload_n h (pc := 33) dX5_dropDoomed_33 rfl ?_
          refine w_iload_n h (pc := 34) dX5_dropDoomed_34 rfl ?_
          refine w_callV2 h (pc := 35) (mX0_drop l D κ a ε V m w T9 hT9 n (by omega) (by omega) b (List.mem_of_getElem? hb9)) 1 rfl rfl (gdV wm_472 wm_473 wm_474 wm_15 wm_475) (by decide +kernel) ⟨(Nat.le_of_ble_eq_true rfl), (Nat.le_of_ble_eq_true rfl)⟩ ⟨(Nat.le_of_ble_eq_true rfl), (Nat.le_of_ble_eq_true rfl)⟩ (fun _ _ _ => ⟨rfl, rfl⟩) (Nat.le_of_ble_eq_true rfl) dX5_dropDoomed_35 (fun v2 u2 hp2 => ?_)
          obtain ⟨rfl, hF2, T2, hT2, hs2⟩ := hp2
          simp only [Option.toList_none, List.nil_append]
          refine w_iinc h (pc := 38) dX5_dropDoomed_38 rfl (by decide) ?_
          refine w_iinc h (pc := 41) dX5_dropDoomed_41 rfl (by decide) ?_
          refine w_goto h (pc := 44) (tgt := 16) dX5_dropDoomed_44 (by decide) ?_
          first
          | exact WW.sub (by rfl) (ih y (z + (-1)) g _ (by omega) (by omega) (by omega) (by rw [hg, show dm = 0 by omega]; omega) hF ⟨T9, hT9, hs9, by rw [ht9, if_neg (by omega), if_neg (by omega)]⟩)
          | exact WW.sub (by rfl) (ih y _ (g + 1) _ (by omega) (by omega) (by omega) (by rw [hg, show dm = 1 by omega]; omega) (hF.tr hF2) ⟨T2, hT2, fun i hi hne => by rw [hs2 i hi, if_neg (by omega)]; exact hs9 i hi hne, by rw [hs2 (n - 1) (by omega), if_pos (by omega), if_pos (by omega), ht9, if_pos (by omega), ← hy]; exact del_take hs0 hb⟩)
  exact WW.sub (by rfl) (lp16 ((T (n - 1)).length + 1) (T (n - 1)).length _ 0 u (by omega) (by omega) (by omega) (by rw [Int.sub_self, Int.mul_zero]) Fr.rfl ⟨T, hT, fun _ _ _ => rfl, by rw [List.take_length]; split <;> rfl⟩)

set_option maxHeartbeats 4000000 in
set_option maxRecDepth 100000 in
theorem mX5_luckBehind (l : Launch) (D : va_G) (κ a : Nat → Nat) (ε : Nat) (u : US) (k : Nat) (hk : k < 10000) : Ct (W0 κ a) l D κ ε yX5_luckBehind cX5_luckBehind 1 (some .int) 0 0 0 0 u [.int (iI (k : Int))] (fun v u' => v = some (.int (iI (((k * 4621 + 2777) % 10000 : Nat) : Int))) ∧ u' = u) := by
  refine Ct.of (own := RX5) rfl (by decide +kernel) (Nat.le_of_ble_eq_true rfl) rfl (fun Γ h => ?_)
  refine w_iload_n h (pc := 0) dX5_luckBehind_0 rfl ?_
  refine w_sipush h (pc := 1) dX5_luckBehind_1 (by decide) ?_
  refine w_imul h (pc := 4) dX5_luckBehind_4 ?_
  refine w_sipush h (pc := 5) dX5_luckBehind_5 (by decide) ?_
  refine w_iadd h (pc := 8) dX5_luckBehind_8 ?_
  refine w_sipush h (pc := 9) dX5_luckBehind_9 (by decide) ?_
  refine w_irem h (pc := 12) dX5_luckBehind_12 (by omega) (by omega) ?_
  exact w_iret h (pc := 13) (ty := .int) rfl rfl dX5_luckBehind_13 (Nat.le_of_ble_eq_true rfl) (Nat.le_of_ble_eq_true rfl) ⟨rfl, rfl⟩

set_option maxHeartbeats 4000000 in
set_option maxRecDepth 100000 in
theorem mX5_allOutcomes (l : Launch) (D : va_G) (κ a : Nat → Nat) (ε : Nat) (V : Nat) (u : US) (hV : V ≤ 12) (eV : u.1 4 = (V : Int)) : Ct (W0 κ a) l D κ ε yX5_allOutcomes cX5_allOutcomes 1 (some .int) 0 0 0 0 u [.ref (a 0)] (fun v u' => v = some (.int (iI ((2 ^ (V + 1) - 1 : Nat) : Int))) ∧ u' = u) := by
  refine Ct.of (own := RX5) rfl (by decide +kernel) (Nat.le_of_ble_eq_true rfl) rfl (fun Γ h => ?_)
  refine w_iconst h (pc := 0) dX5_allOutcomes_0 ?_
  refine w_aload_n h (pc := 1) dX5_allOutcomes_1 rfl ?_
  refine g0_ledger h (pc := 2) wm_16 dX5_allOutcomes_2 ?_
  refine g1_words h (pc := 5) eV wm_113 dX5_allOutcomes_5 ?_
  refine w_iconst h (pc := 8) dX5_allOutcomes_8 ?_
  refine w_iadd h (pc := 9) dX5_allOutcomes_9 ?_
  refine w_ishl h (pc := 10) (z := ((2 ^ (V + 1) : Nat) : Int)) dX5_allOutcomes_10 (shl_1 (j := V + 1) (by omega)) ?_
  refine w_iconst h (pc := 11) dX5_allOutcomes_11 ?_
  refine w_isub h (pc := 12) dX5_allOutcomes_12 ?_
  have h2 := two_pos (V + 1)
  rw [show ((2 ^ (V + 1) : Nat) : Int) - 1 = ((2 ^ (V + 1) - 1 : Nat) : Int) by omega]
  exact w_iret h (pc := 13) (ty := .int) rfl rfl dX5_allOutcomes_13 (Nat.le_of_ble_eq_true rfl) (Nat.le_of_ble_eq_true rfl) ⟨rfl, rfl⟩

set_option maxHeartbeats 4000000 in
set_option maxRecDepth 100000 in
theorem mX5_draw (l : Launch) (D : va_G) (κ a : Nat → Nat) (ε : Nat) (V : Nat) (u : US) (hV : V ≤ 12) (eV : u.1 4 = (V : Int)) (p : Nat → Nat) (hc : ∀ x, x ≤ V → u.2 9 x = (p x : Int) ∧ p x ≤ 1000000) (lk9 dr : Nat) (hlk : lk9 < 10000) (elk : u.1 1 = (lk9 : Int)) (edr : u.1 2 = (dr : Int)) (w0 : Nat) (hw0 : w0 ≤ V) : Ct (W0 κ a) l D κ ε yX5_draw cX5_draw 2 (some .int) 1 30 0 0 u [.ref (a 0), .int (iI ((2 ^ w0 : Nat) : Int))] (fun v u' => v = some (.int (iI (w0 : Int))) ∧ Fr [1, 2] [] u u') := by
  refine Ct.of (own := RX5) rfl (by decide +kernel) (Nat.le_of_ble_eq_true rfl) rfl (fun Γ h => ?_)
  refine w_aload_n h (pc := 0) dX5_draw_0 rfl ?_
  refine w_aload_n h (pc := 1) dX5_draw_1 rfl ?_
  refine g0_luck h (pc := 2) elk wm_34 dX5_draw_2 ?_
  refine w_callS1 h (pc := 5) (mX5_luckBehind l D κ a ε u lk9 hlk) (gdS wm_358 wm_359 wm_2 wm_360) (by decide +kernel) ⟨(Nat.le_of_ble_eq_true rfl), (Nat.le_of_ble_eq_true rfl)⟩ ⟨(Nat.le_of_ble_eq_true rfl), (Nat.le_of_ble_eq_true rfl)⟩ (fun _ _ _ => ⟨rfl, rfl⟩) (Nat.le_of_ble_eq_true rfl) dX5_draw_5 (fun v1 u1 hp1 => ?_)
  obtain ⟨rfl, e1⟩ := hp1
  obtain rfl := e1.symm
  simp only [Option.toList_some, List.cons_append, List.nil_append]
  refine p0_luck h (pc := 8) wm_34 dX5_draw_8 ?_
  refine w_aload_n h (pc := 11) dX5_draw_11 rfl ?_
  refine w_dup h (pc := 12) dX5_draw_12 rfl ?_
  refine g0_draws h (pc := 13) edr wm_35 dX5_draw_13 ?_
  refine w_iconst h (pc := 16) dX5_draw_16 ?_
  refine w_iadd h (pc := 17) dX5_draw_17 ?_
  refine p0_draws h (pc := 18) wm_35 dX5_draw_18 ?_
  refine w_aload_n h (pc := 21) dX5_draw_21 rfl ?_
  refine g0_reckoner h (pc := 22) wm_20 dX5_draw_22 ?_
  refine w_aload_n h (pc := 25) dX5_draw_25 rfl ?_
  refine g0_luck h (pc := 26) rfl wm_34 dX5_draw_26 ?_
  refine w_iload_n h (pc := 29) dX5_draw_29 rfl ?_
  refine w_callV2 h (pc := 30) (mX1_pick l D κ a ε V (uS (uS u 1 (((lk9 * 4621 + 2777) % 10000 : Nat) : Int)) 2 ((dr : Int) + 1)) hV eV p hc ((lk9 * 4621 + 2777) % 10000) (by omega) ((2 ^ w0 : Nat) : Int) (fun i => if i = w0 then 1 else 0) (fun w hw => ⟨by rw [bit_one (by omega) (by omega)]; split <;> rfl, by split <;> omega⟩) ⟨w0, hw0, if_pos rfl⟩) 2 rfl rfl (gdV wm_365 wm_366 wm_367 wm_19 wm_368) (by decide +kernel) ⟨(Nat.le_of_ble_eq_true rfl), (Nat.le_of_ble_eq_true rfl)⟩ ⟨(Nat.le_of_ble_eq_true rfl), (Nat.le_of_ble_eq_true rfl)⟩ (fun _ _ _ => ⟨rfl, rfl⟩) (Nat.le_of_ble_eq_true rfl) dX5_draw_30 (fun v2 u2 hp2 => ?_)
  obtain ⟨rfl, r, rfl, hr, hr1, -⟩ := hp2
  obtain rfl : r = w0 := by
    by_cases q : r = w0
    · exact q
    · rw [if_neg q] at hr1; omega
  simp only [Option.toList_some, List.cons_append, List.nil_append]
  exact w_iret h (pc := 33) (ty := .int) rfl rfl dX5_draw_33 (Nat.le_of_ble_eq_true rfl) (Nat.le_of_ble_eq_true rfl) ⟨rfl, (Fr.S (by simp)).tr (Fr.S (by simp))⟩

set_option maxHeartbeats 4000000 in
set_option maxRecDepth 100000 in
theorem mX5_outcomeOf (l : Launch) (D : va_G) (κ a : Nat → Nat) (ε : Nat) (V : Nat) (u : US) (hV : V ≤ 12) (eV : u.1 4 = (V : Int)) (p : Nat → Nat) (hc : ∀ x, x ≤ V → u.2 9 x = (p x : Int) ∧ p x ≤ 1000000) (lk9 dr : Nat) (hlk : lk9 < 10000) (elk : u.1 1 = (lk9 : Int)) (edr : u.1 2 = (dr : Int)) (w0 : Nat) (hw0 : w0 ≤ V) (hr0 : rk p (V + 1) w0 = 0) : Ct (W0 κ a) l D κ ε yX5_outcomeOf cX5_outcomeOf 3 (some .int) 3 68 0 0 u [.ref (a 0), .int (iI 3), .int (iI 1)] (fun v u' => v = some (.int (iI (w0 : Int))) ∧ Fr [1, 2] [] u u') := by
  refine Ct.of (own := RX5) rfl (by decide +kernel) (Nat.le_of_ble_eq_true rfl) rfl (fun Γ h => ?_)
  refine w_iload_n h (pc := 0) dX5_outcomeOf_0 rfl ?_
  refine w_tabIn h (pc := 1) (tgt := 43) (off := 42) dX5_outcomeOf_1 (by omega) (by decide) (by decide) rfl (by decide) ?_
  refine w_aload_n h (pc := 43) dX5_outcomeOf_43 rfl ?_
  refine w_aload_n h (pc := 44) dX5_outcomeOf_44 rfl ?_
  refine g0_reckoner h (pc := 45) wm_20 dX5_outcomeOf_45 ?_
  refine w_iload_n h (pc := 48) dX5_outcomeOf_48 rfl ?_
  refine w_callV1 h (pc := 49) (mX1_likeliest l D κ a ε V u hV eV p hc w0 hw0 hr0) 2 rfl rfl (gdV wm_518 wm_519 wm_520 wm_19 wm_521) (by decide +kernel) ⟨(Nat.le_of_ble_eq_true rfl), (Nat.le_of_ble_eq_true rfl)⟩ ⟨(Nat.le_of_ble_eq_true rfl), (Nat.le_of_ble_eq_true rfl)⟩ (fun _ _ _ => ⟨rfl, rfl⟩) (Nat.le_of_ble_eq_true rfl) dX5_outcomeOf_49 (fun v1 u1 hp1 => ?_)
  obtain ⟨rfl, e1⟩ := hp1
  obtain rfl := e1.symm
  simp only [Option.toList_some, List.cons_append, List.nil_append]
  refine w_callV1 h (pc := 52) (mX5_draw l D κ a ε V u hV eV p hc lk9 dr hlk elk edr w0 hw0) 0 rfl rfl (gdV wm_522 wm_523 wm_524 wm_2 wm_525) (by decide +kernel) ⟨(Nat.le_of_ble_eq_true rfl), (Nat.le_of_ble_eq_true rfl)⟩ ⟨(Nat.le_of_ble_eq_true rfl), (Nat.le_of_ble_eq_true rfl)⟩ (fun _ _ _ => ⟨rfl, rfl⟩) (Nat.le_of_ble_eq_true rfl) dX5_outcomeOf_52 (fun v2 u2 hp2 => ?_)
  obtain ⟨rfl, hF2⟩ := hp2
  simp only [Option.toList_some, List.cons_append, List.nil_append]
  exact w_iret h (pc := 55) (ty := .int) rfl rfl dX5_outcomeOf_55 (Nat.le_of_ble_eq_true rfl) (Nat.le_of_ble_eq_true rfl) ⟨rfl, hF2⟩

set_option maxHeartbeats 4000000 in
set_option maxRecDepth 100000 in
theorem mX5_takeByStep (l : Launch) (D : va_G) (κ a : Nat → Nat) (ε : Nat) (V N way num m : Nat) (S : List Nat) (T : Nat → List (Nat × Nat)) (u : US) (hA : AB V N way num m S T u) (lk9 dr ed : Nat) (hlk : lk9 < 10000) (elk : u.1 1 = (lk9 : Int)) (edr : u.1 2 = (dr : Int)) (een : u.1 3 = (ed : Int)) (hl9 : S.length < 12) : Ct (W0 κ a) l D κ ε yX5_takeByStep cX5_takeByStep 4 none 5 116 0 0 u [.ref (a 0), .int (iI 3), .int (iI 1)] (fun v u' => v = none ∧ (∀ k, 11 ≤ k → u'.1 k = u.1 k) ∧ ((fw (chz V N way num S T (S.length : Int)) V 0 = V ∧ u'.1 3 = 1 ∧ AB V N way num m S T u') ∨ (fw (chz V N way num S T (S.length : Int)) V 0 < V ∧ u'.1 3 = (ed : Int) ∧ AB V N way num m (S ++ [fw (chz V N way num S T (S.length : Int)) V 0]) T u'))) := by
  obtain ⟨⟨hV, hN, hway, hnum, hm, hSl, hSV⟩, eV, eN, ew, en, ⟨eS, hS⟩, hT⟩ := id hA
  refine Ct.of (own := RX5) rfl (by decide +kernel) (Nat.le_of_ble_eq_true rfl) rfl (fun Γ h => ?_)
  refine w_aload_n h (pc := 0) dX5_takeByStep_0 rfl ?_
  refine w_callV0 h (pc := 1) (mX5_reckonBehindSentence l D κ a ε V N way num m S T u hA) 0 rfl rfl (gdV wm_298 wm_299 wm_300 wm_2 wm_301) (by decide +kernel) ⟨(Nat.le_of_ble_eq_true rfl), (Nat.le_of_ble_eq_true rfl)⟩ ⟨(Nat.le_of_ble_eq_true rfl), (Nat.le_of_ble_eq_true rfl)⟩ (fun _ _ _ => ⟨rfl, rfl⟩) (Nat.le_of_ble_eq_true rfl) dX5_takeByStep_1 (fun v1 u1 hp1 => ?_)
  obtain ⟨rfl, hF1, hc1⟩ := hp1
  have hfw := fw_ok (p := (chz V N way num S T (S.length : Int))) (V := V) (r := 0) (by omega)
  have hA1 := hA.of hF1 (by simp [tS]) (by simp [tG]) (by simp) (by simp)
  simp only [Option.toList_none, List.nil_append]
  refine w_aload_n h (pc := 4) dX5_takeByStep_4 rfl ?_
  refine w_iload_n h (pc := 5) dX5_takeByStep_5 rfl ?_
  refine w_iload_n h (pc := 6) dX5_takeByStep_6 rfl ?_
  refine w_callV2 h (pc := 7) (mX5_outcomeOf l D κ a ε V u1 hV ((hF1.1 4 (by simp)).trans eV) (chz V N way num S T (S.length : Int)) (fun x hx => ⟨hc1 x hx, chz_le hnum hN.1 _ hx⟩) lk9 dr hlk ((hF1.1 1 (by simp)).trans elk) ((hF1.1 2 (by simp)).trans edr) (fw (chz V N way num S T (S.length : Int)) V 0) hfw.1 hfw.2) 0 rfl rfl (gdV wm_514 wm_515 wm_516 wm_2 wm_517) (by decide +kernel) ⟨(Nat.le_of_ble_eq_true rfl), (Nat.le_of_ble_eq_true rfl)⟩ ⟨(Nat.le_of_ble_eq_true rfl), (Nat.le_of_ble_eq_true rfl)⟩ (fun _ _ _ => ⟨rfl, rfl⟩) (Nat.le_of_ble_eq_true rfl) dX5_takeByStep_7 (fun v2 u2 hp2 => ?_)
  obtain ⟨rfl, hF2⟩ := hp2
  have hA2 := hA1.of hF2 (by simp [tS]) (by simp [tG]) (by simp) (by simp)
  have eV3 := hA2.2.1
  have hk2 : ∀ k, 11 ≤ k → u2.1 k = u.1 k := fun k hk => (hF2.1 k (by simp; omega)).trans (hF1.1 k (by simp; omega))
  have e32 : u2.1 3 = (ed : Int) := ((hF2.1 3 (by simp)).trans (hF1.1 3 (by simp))).trans een
  simp only [Option.toList_some, List.cons_append, List.nil_append]
  refine w_istore_n h (pc := 10) dX5_takeByStep_10 (by decide) ?_
  refine w_iload_n h (pc := 11) dX5_takeByStep_11 rfl ?_
  refine w_aload_n h (pc := 12) dX5_takeByStep_12 rfl ?_
  refine g0_ledger h (pc := 13) wm_16 dX5_takeByStep_13 ?_
  refine g1_words h (pc := 16) eV3 wm_113 dX5_takeByStep_16 ?_
  refine w_icmp_ne h (pc := 19) (tgt := 30) dX5_takeByStep_19 (by decide) (by omega) (by omega) (fun c19 => ?_) (fun c19 => ?_)
  · refine w_aload_n h (pc := 30) dX5_takeByStep_30 rfl ?_
    refine w_iload_n h (pc := 31) dX5_takeByStep_31 rfl ?_
    refine w_callV1 h (pc := 32) (mX5_append l D κ a ε V N way num m S T u2 hA2 (fw (chz V N way num S T (S.length : Int)) V 0) (by omega) hl9) 0 rfl rfl (gdV wm_158 wm_159 wm_160 wm_2 wm_161) (by decide +kernel) ⟨(Nat.le_of_ble_eq_true rfl), (Nat.le_of_ble_eq_true rfl)⟩ ⟨(Nat.le_of_ble_eq_true rfl), (Nat.le_of_ble_eq_true rfl)⟩ (fun _ _ _ => ⟨rfl, rfl⟩) (Nat.le_of_ble_eq_true rfl) dX5_takeByStep_32 (fun v3 u3 hp3 => ?_)
    obtain ⟨rfl, hF3, hA3⟩ := hp3
    simp only [Option.toList_none, List.nil_append]
    exact w_vret h (pc := 35) rfl dX5_takeByStep_35 (Nat.le_of_ble_eq_true rfl) (Nat.le_of_ble_eq_true rfl) ⟨rfl, by first | exact fun k hk => (hF3.1 k (by simp; omega)).trans (hk2 k hk) | exact fun k hk => (uS_ne _ _ (by omega)).trans (hk2 k hk), by first | exact Or.inr ⟨by omega, (hF3.1 3 (by simp)).trans e32, hA3⟩ | exact Or.inl ⟨by omega, uS_at _ _ _, hA2.of (Fr.S (ls := [3]) (gs := []) (by simp)) (by simp [tS]) (by simp [tG]) (by simp) (by simp)⟩⟩
  · refine w_aload_n h (pc := 22) dX5_takeByStep_22 rfl ?_
    refine w_iconst h (pc := 23) dX5_takeByStep_23 ?_
    refine p0_ended h (pc := 24) (by omega) wm_36 dX5_takeByStep_24 ?_
    refine w_goto h (pc := 27) (tgt := 35) dX5_takeByStep_27 (by decide) ?_
    exact w_vret h (pc := 35) rfl dX5_takeByStep_35 (Nat.le_of_ble_eq_true rfl) (Nat.le_of_ble_eq_true rfl) ⟨rfl, by first | exact fun k hk => (hF3.1 k (by simp; omega)).trans (hk2 k hk) | exact fun k hk => (uS_ne _ _ (by omega)).trans (hk2 k hk), by first | exact Or.inr ⟨by omega, (hF3.1 3 (by simp)).trans e32, hA3⟩ | exact Or.inl ⟨by omega, uS_at _ _ _, hA2.of (Fr.S (ls := [3]) (gs := []) (by simp)) (by simp [tS]) (by simp [tG]) (by simp) (by simp)⟩⟩

set_option maxHeartbeats 4000000 in
set_option maxRecDepth 100000 in
theorem mX5_partOf (l : Launch) (D : va_G) (κ a : Nat → Nat) (ε : Nat) (u : US) (k n p : Nat) (hk : k < 38416) (hn : 1 ≤ n ∧ n ≤ 4) (hp : p < n) : Ct (W0 κ a) l D κ ε yX5_partOf cX5_partOf 5 (some .int) 0 0 0 0 u [.ref (a 0), .int (iI (k : Int)), .int (iI (n : Int)), .int (iI (p : Int))] (fun v u' => v = some (.int (iI (prt k n p))) ∧ u' = u) := by
  have hix : ((n : Int) - 1 - (p : Int)).toNat = n - 1 - p := by omega
  have hpw := pw_p14 (n := n - 1 - p) (by omega)
  have hp14 := p14_cs (n := n - 1 - p) (by omega)
  obtain ⟨q, hq⟩ : ∃ q, q = p14 (n - 1 - p) := ⟨_, rfl⟩
  rw [← hq] at hpw hp14
  obtain ⟨r, hr⟩ : ∃ r, r = k / q := ⟨_, rfl⟩
  have hrl : r ≤ k := by rw [hr]; exact Nat.div_le_self k q
  refine Ct.of (own := RX5) rfl (by decide +kernel) (Nat.le_of_ble_eq_true rfl) rfl (fun Γ h => ?_)
  refine w_iload_n h (pc := 0) dX5_partOf_0 rfl ?_
  refine w_pows h (pc := 1) wm_274 dX5_partOf_1 ?_
  refine w_iload_n h (pc := 4) dX5_partOf_4 rfl ?_
  refine w_iconst h (pc := 5) dX5_partOf_5 ?_
  refine w_isub h (pc := 6) dX5_partOf_6 ?_
  refine w_iload_n h (pc := 7) dX5_partOf_7 rfl ?_
  refine w_isub h (pc := 8) dX5_partOf_8 ?_
  refine w_pow h (pc := 9) (by omega) ((congrArg pw hix).trans hpw) dX5_partOf_9 ?_
  refine w_idiv h (pc := 10) dX5_partOf_10 (by omega) (by omega) ?_
  refine w_bipush h (pc := 11) dX5_partOf_11 (by decide) ?_
  refine w_irem h (pc := 13) dX5_partOf_13 (by rw [show ((k : Int) / (q : Int)) = (r : Int) by rw [hr]; rfl]; omega) (by omega) ?_
  refine w_istore h (pc := 14) dX5_partOf_14 (by decide) ?_
  refine w_iload h (pc := 16) dX5_partOf_16 rfl ?_
  refine w_iconst h (pc := 18) dX5_partOf_18 ?_
  refine w_isub h (pc := 19) dX5_partOf_19 ?_
  exact w_iret h (pc := 20) (ty := .int) rfl rfl dX5_partOf_20 (Nat.le_of_ble_eq_true rfl) (Nat.le_of_ble_eq_true rfl) ⟨by unfold prt; rw [← hq]; rfl, rfl⟩

set_option maxHeartbeats 4000000 in
set_option maxRecDepth 100000 in
theorem mX5_mix (l : Launch) (D : va_G) (κ a : Nat → Nat) (ε : Nat) (u : US) (d x : Int) : Ct (W0 κ a) l D κ ε yX5_mix cX5_mix 4 (some .long) 0 0 0 0 u [.long (lI d), .long (lI x)] (fun v u' => v = some (.long (lI (d * 31 + x))) ∧ u' = u) := by
  refine Ct.of (own := RX5) rfl (by decide +kernel) (Nat.le_of_ble_eq_true rfl) rfl (fun Γ h => ?_)
  refine w_lload_n h (pc := 0) dX5_mix_0 rfl ?_
  refine w_ldc2 h (pc := 1) (z := 31) dX5_mix_1 wm_261 (by decide) ?_
  refine w_lmul h (pc := 4) dX5_mix_4 ?_
  refine w_lload_n h (pc := 5) dX5_mix_5 rfl ?_
  refine w_ladd h (pc := 6) dX5_mix_6 ?_
  exact w_lret h (pc := 7) rfl dX5_mix_7 (Nat.le_of_ble_eq_true rfl) (Nat.le_of_ble_eq_true rfl) ⟨rfl, rfl⟩

set_option maxHeartbeats 4000000 in
set_option maxRecDepth 100000 in
theorem mX5_mixEntries (l : Launch) (D : va_G) (κ a : Nat → Nat) (ε : Nat) (V N way num m : Nat) (S : List Nat) (T : Nat → List (Nat × Nat)) (u : US) (hA : AB V N way num m S T u) (n : Nat) (hn : 1 ≤ n ∧ n ≤ N) (d0 : Int) : Ct (W0 κ a) l D κ ε yX5_mixEntries cX5_mixEntries 9 (some .long) 2 42 0 0 u [.ref (a 0), .long (lI d0), .int (iI (n : Int))] (fun v u' => v = some (.long (lI (mxE (T (n - 1)) n d0))) ∧ u' = u) := by
  obtain ⟨⟨hV, hN, hway, hnum, hm, hSl, hSV⟩, eV, eN, ew, en, ⟨eS, hS⟩, hT⟩ := id hA
  have hT0 := hT (n - 1) (by omega)
  have hlen := hT0.2.2.2.1
  refine Ct.of (own := RX5) rfl (by decide +kernel) (Nat.le_of_ble_eq_true rfl) rfl (fun Γ h => ?_)
  refine w_aload_n h (pc := 0) dX5_mixEntries_0 rfl ?_
  refine g0_ledger h (pc := 1) wm_16 dX5_mixEntries_1 ?_
  refine w_iload_n h (pc := 4) dX5_mixEntries_4 rfl ?_
  refine w_callV1 h (pc := 5) (mX0_countsOf l D κ a ε u n (by omega)) 1 rfl rfl (gdV wm_269 wm_120 wm_121 wm_15 wm_122) (by decide +kernel) ⟨(Nat.le_of_ble_eq_true rfl), (Nat.le_of_ble_eq_true rfl)⟩ ⟨(Nat.le_of_ble_eq_true rfl), (Nat.le_of_ble_eq_true rfl)⟩ (fun _ _ _ => ⟨rfl, rfl⟩) (Nat.le_of_ble_eq_true rfl) dX5_mixEntries_5 (fun v1 u1 hp1 => ?_)
  obtain ⟨rfl, e1⟩ := hp1
  obtain rfl := e1.symm
  simp only [Option.toList_some, List.cons_append, List.nil_append]
  refine w_astore h (pc := 8) dX5_mixEntries_8 (by decide) ?_
  refine w_lload_n h (pc := 10) dX5_mixEntries_10 rfl ?_
  refine w_aload h (pc := 11) dX5_mixEntries_11 rfl ?_
  refine gT_size h (pc := 13) (by omega) hT0.1.1 wm_266 dX5_mixEntries_13 ?_
  refine w_i2l h (pc := 16) dX5_mixEntries_16 (by omega) ?_
  refine w_callS2 h (pc := 17) (mX5_mix l D κ a ε u d0 ((T (n - 1)).length : Int)) (gdS wm_258 wm_259 wm_2 wm_260) (by decide +kernel) ⟨(Nat.le_of_ble_eq_true rfl), (Nat.le_of_ble_eq_true rfl)⟩ ⟨(Nat.le_of_ble_eq_true rfl), (Nat.le_of_ble_eq_true rfl)⟩ (fun _ _ _ => ⟨rfl, rfl⟩) (Nat.le_of_ble_eq_true rfl) dX5_mixEntries_17 (fun v2 u2 hp2 => ?_)
  obtain ⟨rfl, e2⟩ := hp2
  obtain rfl := e2.symm
  simp only [Option.toList_some, List.cons_append, List.nil_append]
  refine w_lstore h (pc := 20) dX5_mixEntries_20 (by decide) ?_
  refine w_iconst h (pc := 22) dX5_mixEntries_22 ?_
  refine w_istore h (pc := 23) dX5_mixEntries_23 (by decide) ?_
  have lp25 : ∀ (n9 e : Nat) (d : Int), (T (n - 1)).length < e + n9 → e ≤ (T (n - 1)).length → d = fl (enF (T (n - 1)) n) e (d0 * 31 + ((T (n - 1)).length : Int)) → WW Γ 9 u 25 [(0, .ref (a 0)), (3, .int (iI (n : Int))), (4, .ref (a (30 + 3 * (n - 1)))), (5, .long (lI d)), (7, .int (iI (e : Int)))] [] := by
    intro n9
    induction n9 with
    | zero => intro e d hn9 he hd; exfalso; omega
    | succ n9 ih =>
      intro e d hn9 he hd
      refine w_iload h (pc := 25) dX5_mixEntries_25 rfl ?_
      refine w_aload h (pc := 27) dX5_mixEntries_27 rfl ?_
      refine gT_size h (pc := 29) (by omega) hT0.1.1 wm_266 dX5_mixEntries_29 ?_
      refine w_icmp_ge h (pc := 32) (tgt := 95) dX5_mixEntries_32 (by decide) (by omega) (by omega) (fun c32 => ?_) (fun c32 => ?_)
      · obtain rfl : e = (T (n - 1)).length := by omega
        refine w_lload h (pc := 95) dX5_mixEntries_95 rfl ?_
        exact w_lret h (pc := 97) rfl dX5_mixEntries_97 (Nat.le_of_ble_eq_true rfl) (Nat.le_of_ble_eq_true rfl) ⟨by rw [hd]; rfl, rfl⟩
      · have ih_2 := ih
        obtain ⟨b, hb⟩ := getN (t := T (n - 1)) (j := e) (by omega)
        have hkv := (hT0.1.2 _ b hb).1
        have hcv := (hT0.1.2 _ b hb).2
        have hbb := hT0.2.2.2.2 b (List.mem_of_getElem? hb)
        refine w_iconst h (pc := 35) dX5_mixEntries_35 ?_
        refine w_istore h (pc := 36) dX5_mixEntries_36 (by decide) ?_
        have lp38 : ∀ (n9 p : Nat) (d9 : Int), n < p + n9 → p ≤ n → d9 = fl (fun p d => d * 31 + prt b.1 n p) p d → WW Γ 9 u 38 [(0, .ref (a 0)), (3, .int (iI (n : Int))), (4, .ref (a (30 + 3 * (n - 1)))), (5, .long (lI d9)), (7, .int (iI (e : Int))), (8, .int (iI (p : Int)))] [] := by
          intro n9
          induction n9 with
          | zero => intro p d9 hn8 hp hd8; exfalso; omega
          | succ n9 ih =>
            intro p d9 hn8 hp hd8
            refine w_iload h (pc := 38) dX5_mixEntries_38 rfl ?_
            refine w_iload_n h (pc := 40) dX5_mixEntries_40 rfl ?_
            refine w_icmp_ge h (pc := 41) (tgt := 73) dX5_mixEntries_41 (by decide) (by omega) (by omega) (fun c41 => ?_) (fun c41 => ?_)
            · refine w_lload h (pc := 73) dX5_mixEntries_73 rfl ?_
              refine w_aload h (pc := 75) dX5_mixEntries_75 rfl ?_
              refine gT_counts h (pc := 77) (by omega) wm_268 dX5_mixEntries_77 ?_
              refine w_iload h (pc := 80) dX5_mixEntries_80 rfl ?_
              refine ld_counts h (pc := 82) (by omega) (by omega) hcv dX5_mixEntries_82 ?_
              refine w_i2l h (pc := 83) dX5_mixEntries_83 (by omega) ?_
              refine w_callS2 h (pc := 84) (mX5_mix l D κ a ε u d9 (b.2 : Int)) (gdS wm_258 wm_259 wm_2 wm_260) (by decide +kernel) ⟨(Nat.le_of_ble_eq_true rfl), (Nat.le_of_ble_eq_true rfl)⟩ ⟨(Nat.le_of_ble_eq_true rfl), (Nat.le_of_ble_eq_true rfl)⟩ (fun _ _ _ => ⟨rfl, rfl⟩) (Nat.le_of_ble_eq_true rfl) dX5_mixEntries_84 (fun v5 u5 hp5 => ?_)
              obtain ⟨rfl, e5⟩ := hp5
              obtain rfl := e5.symm
              simp only [Option.toList_some, List.cons_append, List.nil_append]
              refine w_lstore h (pc := 87) dX5_mixEntries_87 (by decide) ?_
              refine w_iinc h (pc := 89) dX5_mixEntries_89 rfl (by decide) ?_
              refine w_goto h (pc := 92) (tgt := 25) dX5_mixEntries_92 (by decide) ?_
              exact WW.sub (by rfl) (ih_2 (e + 1) _ (by omega) (by omega) (by show _ = enF (T (n - 1)) n e _; rw [← hd]; unfold enF; rw [getD_at hb, hd8, show p = n by omega]))
            · refine w_lload h (pc := 44) dX5_mixEntries_44 rfl ?_
              refine w_aload_n h (pc := 46) dX5_mixEntries_46 rfl ?_
              refine w_aload h (pc := 47) dX5_mixEntries_47 rfl ?_
              refine gT_keys h (pc := 49) (by omega) wm_267 dX5_mixEntries_49 ?_
              refine w_iload h (pc := 52) dX5_mixEntries_52 rfl ?_
              refine ld_keys h (pc := 54) (by omega) (by omega) hkv dX5_mixEntries_54 ?_
              refine w_iload_n h (pc := 55) dX5_mixEntries_55 rfl ?_
              refine w_iload h (pc := 56) dX5_mixEntries_56 rfl ?_
              refine w_callV3 h (pc := 58) (mX5_partOf l D κ a ε u b.1 n p (by omega) (by omega) (by omega)) 0 rfl rfl (gdV wm_270 wm_271 wm_272 wm_2 wm_273) (by decide +kernel) ⟨(Nat.le_of_ble_eq_true rfl), (Nat.le_of_ble_eq_true rfl)⟩ ⟨(Nat.le_of_ble_eq_true rfl), (Nat.le_of_ble_eq_true rfl)⟩ (fun _ _ _ => ⟨rfl, rfl⟩) (Nat.le_of_ble_eq_true rfl) dX5_mixEntries_58 (fun v3 u3 hp3 => ?_)
              obtain ⟨rfl, e3⟩ := hp3
              obtain rfl := e3.symm
              simp only [Option.toList_some, List.cons_append, List.nil_append]
              have hprt : -1 ≤ prt b.1 n p ∧ prt b.1 n p ≤ 13 := by unfold prt; omega
              refine w_i2l h (pc := 61) dX5_mixEntries_61 (by omega) ?_
              refine w_callS2 h (pc := 62) (mX5_mix l D κ a ε u d9 (prt b.1 n p)) (gdS wm_258 wm_259 wm_2 wm_260) (by decide +kernel) ⟨(Nat.le_of_ble_eq_true rfl), (Nat.le_of_ble_eq_true rfl)⟩ ⟨(Nat.le_of_ble_eq_true rfl), (Nat.le_of_ble_eq_true rfl)⟩ (fun _ _ _ => ⟨rfl, rfl⟩) (Nat.le_of_ble_eq_true rfl) dX5_mixEntries_62 (fun v4 u4 hp4 => ?_)
              obtain ⟨rfl, e4⟩ := hp4
              obtain rfl := e4.symm
              simp only [Option.toList_some, List.cons_append, List.nil_append]
              refine w_lstore h (pc := 65) dX5_mixEntries_65 (by decide) ?_
              refine w_iinc h (pc := 67) dX5_mixEntries_67 rfl (by decide) ?_
              refine w_goto h (pc := 70) (tgt := 38) dX5_mixEntries_70 (by decide) ?_
              exact WW.sub (by rfl) (ih (p + 1) _ (by omega) (by omega) (by show _ = fl _ p d * 31 + _; rw [← hd8]))
        exact WW.sub (by rfl) (lp38 (n + 1) 0 d (by omega) (by omega) rfl)
  exact WW.sub (by rfl) (lp25 ((T (n - 1)).length + 1) 0 _ (by omega) (by omega) rfl)

set_option maxHeartbeats 4000000 in
set_option maxRecDepth 100000 in
theorem mX5_mixChances (l : Launch) (D : va_G) (κ a : Nat → Nat) (ε : Nat) (V N way num m : Nat) (S : List Nat) (T : Nat → List (Nat × Nat)) (u : US) (hA : AB V N way num m S T u) (d0 : Int) : Ct (W0 κ a) l D κ ε yX5_mixChances cX5_mixChances 6 (some .long) 5 116 0 0 u [.ref (a 0), .long (lI d0)] (fun v u' => v = some (.long (lI (mcF V (chz V N way num S T (S.length : Int)) d0))) ∧ Fr [8, 9] [9, 10] u u') := by
  obtain ⟨⟨hV, hN, hway, hnum, hm, hSl, hSV⟩, eV, eN, ew, en, ⟨eS, hS⟩, hT⟩ := id hA
  refine Ct.of (own := RX5) rfl (by decide +kernel) (Nat.le_of_ble_eq_true rfl) rfl (fun Γ h => ?_)
  refine w_lload_n h (pc := 0) dX5_mixChances_0 rfl ?_
  refine w_lstore_n h (pc := 1) dX5_mixChances_1 (by decide) ?_
  refine w_aload_n h (pc := 2) dX5_mixChances_2 rfl ?_
  refine w_callV0 h (pc := 3) (mX5_reckonBehindSentence l D κ a ε V N way num m S T u hA) 0 rfl rfl (gdV wm_298 wm_299 wm_300 wm_2 wm_301) (by decide +kernel) ⟨(Nat.le_of_ble_eq_true rfl), (Nat.le_of_ble_eq_true rfl)⟩ ⟨(Nat.le_of_ble_eq_true rfl), (Nat.le_of_ble_eq_true rfl)⟩ (fun _ _ _ => ⟨rfl, rfl⟩) (Nat.le_of_ble_eq_true rfl) dX5_mixChances_3 (fun v1 u1 hp1 => ?_)
  obtain ⟨rfl, hF1, hc1⟩ := hp1
  have eV1 : u1.1 4 = (V : Int) := (hF1.1 4 (by simp)).trans eV
  have hcl : ∀ x, x ≤ V → (chz V N way num S T (S.length : Int)) x ≤ 1000000 := fun x hx => chz_le hnum hN.1 _ hx
  simp only [Option.toList_none, List.nil_append]
  refine w_iconst h (pc := 6) dX5_mixChances_6 ?_
  refine w_istore h (pc := 7) dX5_mixChances_7 (by decide) ?_
  have lp9 : ∀ (n9 j : Nat) (d : Int), V + 1 < j + n9 → j ≤ V + 1 → d = fl (fun w d => d * 31 + ((chz V N way num S T (S.length : Int)) w : Int)) j d0 → WW Γ 6 u1 9 [(0, .ref (a 0)), (3, .long (lI d)), (5, .int (iI (j : Int)))] [] := by
    intro n9
    induction n9 with
    | zero => intro j d hn9 hj hd; exfalso; omega
    | succ n9 ih =>
      intro j d hn9 hj hd
      refine w_iload h (pc := 9) dX5_mixChances_9 rfl ?_
      refine w_aload_n h (pc := 11) dX5_mixChances_11 rfl ?_
      refine g0_ledger h (pc := 12) wm_16 dX5_mixChances_12 ?_
      refine g1_words h (pc := 15) eV1 wm_113 dX5_mixChances_15 ?_
      refine w_icmp_gt h (pc := 18) (tgt := 43) dX5_mixChances_18 (by decide) (by omega) (by omega) (fun c18 => ?_) (fun c18 => ?_)
      · obtain rfl : j = V + 1 := by omega
        refine w_iconst h (pc := 43) dX5_mixChances_43 ?_
        refine w_istore h (pc := 44) dX5_mixChances_44 (by decide) ?_
        have lp46 : ∀ (n9 j : Nat) (d : Int), V + 1 < j + n9 → j ≤ V + 1 → d = fl (fun r d => d * 31 + (fw (chz V N way num S T (S.length : Int)) V r : Int)) j (fl (fun w d => d * 31 + ((chz V N way num S T (S.length : Int)) w : Int)) (V + 1) d0) → WW Γ 6 u1 46 [(0, .ref (a 0)), (3, .long (lI d)), (5, .int (iI (j : Int)))] [] := by
          intro n9
          induction n9 with
          | zero => intro j d hn9 hj hd; exfalso; omega
          | succ n9 ih =>
            intro j d hn9 hj hd
            refine w_iload h (pc := 46) dX5_mixChances_46 rfl ?_
            refine w_aload_n h (pc := 48) dX5_mixChances_48 rfl ?_
            refine g0_ledger h (pc := 49) wm_16 dX5_mixChances_49 ?_
            refine g1_words h (pc := 52) eV1 wm_113 dX5_mixChances_52 ?_
            refine w_icmp_gt h (pc := 55) (tgt := 79) dX5_mixChances_55 (by decide) (by omega) (by omega) (fun c55 => ?_) (fun c55 => ?_)
            · obtain rfl : j = V + 1 := by omega
              refine w_lload_n h (pc := 79) dX5_mixChances_79 rfl ?_
              exact w_lret h (pc := 80) rfl dX5_mixChances_80 (Nat.le_of_ble_eq_true rfl) (Nat.le_of_ble_eq_true rfl) ⟨by rw [hd]; rfl, hF1⟩
            · refine w_lload_n h (pc := 58) dX5_mixChances_58 rfl ?_
              refine w_aload_n h (pc := 59) dX5_mixChances_59 rfl ?_
              refine g0_reckoner h (pc := 60) wm_20 dX5_mixChances_60 ?_
              refine w_iload h (pc := 63) dX5_mixChances_63 rfl ?_
              refine w_callV1 h (pc := 65) (mX1_withRank l D κ a ε V u1 hV eV1 (chz V N way num S T (S.length : Int)) (fun x hx => ⟨hc1 x hx, hcl x hx⟩) j (by omega)) 2 rfl rfl (gdV wm_325 wm_326 wm_327 wm_19 wm_328) (by decide +kernel) ⟨(Nat.le_of_ble_eq_true rfl), (Nat.le_of_ble_eq_true rfl)⟩ ⟨(Nat.le_of_ble_eq_true rfl), (Nat.le_of_ble_eq_true rfl)⟩ (fun _ _ _ => ⟨rfl, rfl⟩) (Nat.le_of_ble_eq_true rfl) dX5_mixChances_65 (fun v3 u3 hp3 => ?_)
              obtain ⟨rfl, e3⟩ := hp3
              obtain rfl := e3.symm
              have hfw := (fw_ok (p := (chz V N way num S T (S.length : Int))) (V := V) (r := j) (by omega)).1
              simp only [Option.toList_some, List.cons_append, List.nil_append]
              refine w_i2l h (pc := 68) dX5_mixChances_68 (by omega) ?_
              refine w_callS2 h (pc := 69) (mX5_mix l D κ a ε u1 d (fw (chz V N way num S T (S.length : Int)) V j : Int)) (gdS wm_258 wm_259 wm_2 wm_260) (by decide +kernel) ⟨(Nat.le_of_ble_eq_true rfl), (Nat.le_of_ble_eq_true rfl)⟩ ⟨(Nat.le_of_ble_eq_true rfl), (Nat.le_of_ble_eq_true rfl)⟩ (fun _ _ _ => ⟨rfl, rfl⟩) (Nat.le_of_ble_eq_true rfl) dX5_mixChances_69 (fun v4 u4 hp4 => ?_)
              obtain ⟨rfl, e4⟩ := hp4
              obtain rfl := e4.symm
              simp only [Option.toList_some, List.cons_append, List.nil_append]
              refine w_lstore_n h (pc := 72) dX5_mixChances_72 (by decide) ?_
              refine w_iinc h (pc := 73) dX5_mixChances_73 rfl (by decide) ?_
              refine w_goto h (pc := 76) (tgt := 46) dX5_mixChances_76 (by decide) ?_
              exact WW.sub (by rfl) (ih (j + 1) _ (by omega) (by omega) (by show _ = fl _ j _ * 31 + _; rw [← hd]))
        exact WW.sub (by rfl) (lp46 (V + 2) 0 d (by omega) (by omega) hd)
      · have hcj := hcl j (by omega)
        refine w_lload_n h (pc := 21) dX5_mixChances_21 rfl ?_
        refine w_aload_n h (pc := 22) dX5_mixChances_22 rfl ?_
        refine g0_reckoner h (pc := 23) wm_20 dX5_mixChances_23 ?_
        refine g2_chances h (pc := 26) wm_297 dX5_mixChances_26 ?_
        refine w_iload h (pc := 29) dX5_mixChances_29 rfl ?_
        refine ld_chances h (pc := 31) (by omega) (hc1 j (by omega)) dX5_mixChances_31 ?_
        refine w_i2l h (pc := 32) dX5_mixChances_32 (by omega) ?_
        refine w_callS2 h (pc := 33) (mX5_mix l D κ a ε u1 d ((chz V N way num S T (S.length : Int)) j : Int)) (gdS wm_258 wm_259 wm_2 wm_260) (by decide +kernel) ⟨(Nat.le_of_ble_eq_true rfl), (Nat.le_of_ble_eq_true rfl)⟩ ⟨(Nat.le_of_ble_eq_true rfl), (Nat.le_of_ble_eq_true rfl)⟩ (fun _ _ _ => ⟨rfl, rfl⟩) (Nat.le_of_ble_eq_true rfl) dX5_mixChances_33 (fun v2 u2 hp2 => ?_)
        obtain ⟨rfl, e2⟩ := hp2
        obtain rfl := e2.symm
        simp only [Option.toList_some, List.cons_append, List.nil_append]
        refine w_lstore_n h (pc := 36) dX5_mixChances_36 (by decide) ?_
        refine w_iinc h (pc := 37) dX5_mixChances_37 rfl (by decide) ?_
        refine w_goto h (pc := 40) (tgt := 9) dX5_mixChances_40 (by decide) ?_
        exact WW.sub (by rfl) (ih (j + 1) _ (by omega) (by omega) (by show _ = fl _ j d0 * 31 + _; rw [← hd]))
  exact WW.sub (by rfl) (lp9 (V + 2) 0 d0 (by omega) (by omega) rfl)
end
section
theorem Fr.up {ls gs ls' gs' : List Nat} {u v : US} (h : Fr ls gs u v) (h1 : ∀ k, k ∈ ls → k ∈ ls') (h2 : ∀ k, k ∈ gs → k ∈ gs') : Fr ls' gs' u v := h.mono (fun k hk hm => hk (h1 k hm)) (fun k hk hm => hk (h2 k hm))
theorem TA_nil {V : Nat} {u : US} (h : ∀ i, i < 8 → u.1 (12 + i) = 0) : TA V 0 u (fun _ => []) := fun i hi => ⟨⟨h i hi, fun j b hb => by simp at hb⟩, TV.nil V 0⟩
theorem tl_cg {way N n : Nat} {A B : Nat → List (Nat × Nat)} (hw : way ≠ 4) (h : ∀ i, i < 4 → A i = B i) (hn : 1 ≤ n ∧ n ≤ 4) : tl way N (fun n => A (n - 1)) (fun n => A (n + 3)) n = tl way N (fun n => B (n - 1)) (fun n => B (n + 3)) n := by
  unfold tl
  rw [if_neg (fun q => hw q.1), if_neg (fun q => hw q.1)]
  exact h (n - 1) (by omega)
theorem rcF_cg {way num V N c lo : Nat} {A B : Nat → List (Nat × Nat)} (hw : way ≠ 4) (h : ∀ i, i < 4 → A i = B i) (hlo : 1 ≤ lo) : ∀ m : Nat, lo + m ≤ 5 → rcF way num V N (fun n => A (n - 1)) (fun n => A (n + 3)) c lo m = rcF way num V N (fun n => B (n - 1)) (fun n => B (n + 3)) c lo m
  | 0, _ => rfl
  | m + 1, hm => by
    show rf way num V (tl way N _ _ (lo + m)) _ (rcF way num V N _ _ c lo m) = rf way num V (tl way N _ _ (lo + m)) _ (rcF way num V N _ _ c lo m)
    rw [rcF_cg hw h hlo m (by omega), tl_cg hw h (by omega)]
/-- where the way isn't the fourth, only the counted tallies tell -/
theorem chz_cg {V N way num : Nat} {S : List Nat} {A B : Nat → List (Nat × Nat)} (hw : way ≠ 4) (hN : 1 ≤ N ∧ N ≤ 4) (h : ∀ i, i < 4 → A i = B i) (z : Int) : chz V N way num S A z = chz V N way num S B z := by
  unfold chz chs
  split
  · exact rcF_cg hw h hN.1 1 (by omega)
  · exact rcF_cg hw h (Nat.le_refl 1) N (by omega)
theorem scr_cg {V N way num : Nat} {S : List Nat} {A B : Nat → List (Nat × Nat)} (hw : way ≠ 4) (hN : 1 ≤ N ∧ N ≤ 4) (h : ∀ i, i < 4 → A i = B i) : scr V N way num S A = scr V N way num S B := by
  unfold scr
  refine sm_cg fun i _ => ?_
  unfold cz
  rw [chz_cg hw hN h]
theorem fl_cg {f g : Nat → Int → Int} : ∀ {n : Nat}, (∀ j d, j < n → f j d = g j d) → ∀ d : Int, fl f n d = fl g n d
  | 0, _, _ => rfl
  | n + 1, h, d => by
    show f n (fl f n d) = g n (fl g n d)
    rw [fl_cg (fun j d hj => h j d (by omega)) d, h n _ (by omega)]
theorem dgs_cg {V N way num : Nat} {S : List Nat} {A B : Nat → List (Nat × Nat)} (hw : way ≠ 4) (hN : 1 ≤ N ∧ N ≤ 4) (h : ∀ i, i < 4 → A i = B i) (lk dr en : Nat) : dgs V N way num S A lk dr en = dgs V N way num S B lk dr en := by
  have e2 : dg2 V N S A = dg2 V N S B := fl_cg (fun j d hj => by rw [h j (by omega)]) _
  have e3 : dg3 V N S A = dg3 V N S B := by
    unfold dg3
    rw [e2]
    refine fl_cg (fun j d hj => ?_) _
    unfold ofc
    rw [h j (by omega)]
  unfold dgs
  rw [chz_cg hw hN h, e3, scr_cg hw hN h]
end
section
theorem dX2_append_0 : decode cX2_append 0 = .ok (.aload_n 0, 1) := by decide +kernel
theorem dX2_append_1 : decode cX2_append 1 = .ok (.getfield 21, 3) := by decide +kernel
theorem dX2_append_4 : decode cX2_append 4 = .ok (.bipush 12, 2) := by decide +kernel
theorem dX2_append_6 : decode cX2_append 6 = .ok (.if_icmp .ge 33, 3) := by decide +kernel
theorem dX2_append_9 : decode cX2_append 9 = .ok (.aload_n 0, 1) := by decide +kernel
theorem dX2_append_10 : decode cX2_append 10 = .ok (.getfield 9, 3) := by decide +kernel
theorem dX2_append_13 : decode cX2_append 13 = .ok (.aload_n 0, 1) := by decide +kernel
theorem dX2_append_14 : decode cX2_append 14 = .ok (.getfield 21, 3) := by decide +kernel
theorem dX2_append_17 : decode cX2_append 17 = .ok (.iload_n 1, 1) := by decide +kernel
theorem dX2_append_18 : decode cX2_append 18 = .ok (.iastore, 1) := by decide +kernel
theorem dX2_append_19 : decode cX2_append 19 = .ok (.aload_n 0, 1) := by decide +kernel
theorem dX2_append_20 : decode cX2_append 20 = .ok (.getfield 15, 3) := by decide +kernel
theorem dX2_append_23 : decode cX2_append 23 = .ok (.aload_n 0, 1) := by decide +kernel
theorem dX2_append_24 : decode cX2_append 24 = .ok (.getfield 21, 3) := by decide +kernel
theorem dX2_append_27 : decode cX2_append 27 = .ok (.iload_n 2, 1) := by decide +kernel
theorem dX2_append_28 : decode cX2_append 28 = .ok (.iastore, 1) := by decide +kernel
theorem dX2_append_29 : decode cX2_append 29 = .ok (.aload_n 0, 1) := by decide +kernel
theorem dX2_append_30 : decode cX2_append 30 = .ok (.dup, 1) := by decide +kernel
theorem dX2_append_31 : decode cX2_append 31 = .ok (.getfield 21, 3) := by decide +kernel
theorem dX2_append_34 : decode cX2_append 34 = .ok (.iconst 1, 1) := by decide +kernel
theorem dX2_append_35 : decode cX2_append 35 = .ok (.iadd, 1) := by decide +kernel
theorem dX2_append_36 : decode cX2_append 36 = .ok (.putfield 21, 3) := by decide +kernel
theorem dX2_append_39 : decode cX2_append 39 = .ok (.aload_n 0, 1) := by decide +kernel
theorem dX2_append_40 : decode cX2_append 40 = .ok (.getfield 21, 3) := by decide +kernel
theorem dX2_append_43 : decode cX2_append 43 = .ok (.iconst 1, 1) := by decide +kernel
theorem dX2_append_44 : decode cX2_append 44 = .ok (.isub, 1) := by decide +kernel
theorem dX2_append_45 : decode cX2_append 45 = .ok (.ireturn, 1) := by decide +kernel
theorem dX2_forgetReturns_0 : decode cX2_forgetReturns 0 = .ok (.aload_n 0, 1) := by decide +kernel
theorem dX2_forgetReturns_1 : decode cX2_forgetReturns 1 = .ok (.getfield 18, 3) := by decide +kernel
theorem dX2_forgetReturns_4 : decode cX2_forgetReturns 4 = .ok (.iconst 0, 1) := by decide +kernel
theorem dX2_forgetReturns_5 : decode cX2_forgetReturns 5 = .ok (.invokestatic 25, 3) := by decide +kernel
theorem dX2_forgetReturns_8 : decode cX2_forgetReturns 8 = .ok (.return_, 1) := by decide +kernel
theorem dX5_addStep_0 : decode cX5_addStep 0 = .ok (.aload_n 0, 1) := by decide +kernel
theorem dX5_addStep_1 : decode cX5_addStep 1 = .ok (.iload_n 1, 1) := by decide +kernel
theorem dX5_addStep_2 : decode cX5_addStep 2 = .ok (.iload_n 2, 1) := by decide +kernel
theorem dX5_addStep_3 : decode cX5_addStep 3 = .ok (.invokevirtual 217, 3) := by decide +kernel
theorem dX5_addStep_6 : decode cX5_addStep 6 = .ok (.ifCond .ne 13, 3) := by decide +kernel
theorem dX5_addStep_19 : decode cX5_addStep 19 = .ok (.aload_n 0, 1) := by decide +kernel
theorem dX5_addStep_20 : decode cX5_addStep 20 = .ok (.getfield 37, 3) := by decide +kernel
theorem dX5_addStep_23 : decode cX5_addStep 23 = .ok (.getfield 222, 3) := by decide +kernel
theorem dX5_addStep_26 : decode cX5_addStep 26 = .ok (.bipush 12, 2) := by decide +kernel
theorem dX5_addStep_28 : decode cX5_addStep 28 = .ok (.if_icmp .lt 13, 3) := by decide +kernel
theorem dX5_addStep_41 : decode cX5_addStep 41 = .ok (.aload_n 0, 1) := by decide +kernel
theorem dX5_addStep_42 : decode cX5_addStep 42 = .ok (.getfield 37, 3) := by decide +kernel
theorem dX5_addStep_45 : decode cX5_addStep 45 = .ok (.iload_n 1, 1) := by decide +kernel
theorem dX5_addStep_46 : decode cX5_addStep 46 = .ok (.iload_n 2, 1) := by decide +kernel
theorem dX5_addStep_47 : decode cX5_addStep 47 = .ok (.invokevirtual 225, 3) := by decide +kernel
theorem dX5_addStep_50 : decode cX5_addStep 50 = .ok (.ireturn, 1) := by decide +kernel
theorem dX5_addWord_0 : decode cX5_addWord 0 = .ok (.aload_n 0, 1) := by decide +kernel
theorem dX5_addWord_1 : decode cX5_addWord 1 = .ok (.getfield 10, 3) := by decide +kernel
theorem dX5_addWord_4 : decode cX5_addWord 4 = .ok (.getfield 65, 3) := by decide +kernel
theorem dX5_addWord_7 : decode cX5_addWord 7 = .ok (.bipush 12, 2) := by decide +kernel
theorem dX5_addWord_9 : decode cX5_addWord 9 = .ok (.if_icmp .lt 13, 3) := by decide +kernel
theorem dX5_addWord_22 : decode cX5_addWord 22 = .ok (.aload_n 0, 1) := by decide +kernel
theorem dX5_addWord_23 : decode cX5_addWord 23 = .ok (.getfield 10, 3) := by decide +kernel
theorem dX5_addWord_26 : decode cX5_addWord 26 = .ok (.invokevirtual 75, 3) := by decide +kernel
theorem dX5_addWord_29 : decode cX5_addWord 29 = .ok (.aload_n 0, 1) := by decide +kernel
theorem dX5_addWord_30 : decode cX5_addWord 30 = .ok (.iconst 0, 1) := by decide +kernel
theorem dX5_addWord_31 : decode cX5_addWord 31 = .ok (.putfield 51, 3) := by decide +kernel
theorem dX5_addWord_34 : decode cX5_addWord 34 = .ok (.aload_n 0, 1) := by decide +kernel
theorem dX5_addWord_35 : decode cX5_addWord 35 = .ok (.getfield 10, 3) := by decide +kernel
theorem dX5_addWord_38 : decode cX5_addWord 38 = .ok (.dup, 1) := by decide +kernel
theorem dX5_addWord_39 : decode cX5_addWord 39 = .ok (.getfield 65, 3) := by decide +kernel
theorem dX5_addWord_42 : decode cX5_addWord 42 = .ok (.iconst 1, 1) := by decide +kernel
theorem dX5_addWord_43 : decode cX5_addWord 43 = .ok (.iadd, 1) := by decide +kernel
theorem dX5_addWord_44 : decode cX5_addWord 44 = .ok (.putfield 65, 3) := by decide +kernel
theorem dX5_addWord_47 : decode cX5_addWord 47 = .ok (.aload_n 0, 1) := by decide +kernel
theorem dX5_addWord_48 : decode cX5_addWord 48 = .ok (.getfield 10, 3) := by decide +kernel
theorem dX5_addWord_51 : decode cX5_addWord 51 = .ok (.getfield 65, 3) := by decide +kernel
theorem dX5_addWord_54 : decode cX5_addWord 54 = .ok (.iconst 1, 1) := by decide +kernel
theorem dX5_addWord_55 : decode cX5_addWord 55 = .ok (.isub, 1) := by decide +kernel
theorem dX5_addWord_56 : decode cX5_addWord 56 = .ok (.ireturn, 1) := by decide +kernel
theorem dX5_chance_0 : decode cX5_chance 0 = .ok (.iload_n 1, 1) := by decide +kernel
theorem dX5_chance_1 : decode cX5_chance 1 = .ok (.ifCond .lt 14, 3) := by decide +kernel
theorem dX5_chance_4 : decode cX5_chance 4 = .ok (.iload_n 1, 1) := by decide +kernel
theorem dX5_chance_5 : decode cX5_chance 5 = .ok (.aload_n 0, 1) := by decide +kernel
theorem dX5_chance_6 : decode cX5_chance 6 = .ok (.getfield 10, 3) := by decide +kernel
theorem dX5_chance_9 : decode cX5_chance 9 = .ok (.getfield 65, 3) := by decide +kernel
theorem dX5_chance_12 : decode cX5_chance 12 = .ok (.if_icmp .le 13, 3) := by decide +kernel
theorem dX5_chance_25 : decode cX5_chance 25 = .ok (.aload_n 0, 1) := by decide +kernel
theorem dX5_chance_26 : decode cX5_chance 26 = .ok (.invokevirtual 183, 3) := by decide +kernel
theorem dX5_chance_29 : decode cX5_chance 29 = .ok (.aload_n 0, 1) := by decide +kernel
theorem dX5_chance_30 : decode cX5_chance 30 = .ok (.getfield 21, 3) := by decide +kernel
theorem dX5_chance_33 : decode cX5_chance 33 = .ok (.getfield 186, 3) := by decide +kernel
theorem dX5_chance_36 : decode cX5_chance 36 = .ok (.iload_n 1, 1) := by decide +kernel
theorem dX5_chance_37 : decode cX5_chance 37 = .ok (.iaload, 1) := by decide +kernel
theorem dX5_chance_38 : decode cX5_chance 38 = .ok (.ireturn, 1) := by decide +kernel
theorem dX5_costOf_0 : decode cX5_costOf 0 = .ok (.iload_n 1, 1) := by decide +kernel
theorem dX5_costOf_1 : decode cX5_costOf 1 = .ok (.invokestatic 194, 3) := by decide +kernel
theorem dX5_costOf_4 : decode cX5_costOf 4 = .ok (.ireturn, 1) := by decide +kernel
theorem dX5_entries_0 : decode cX5_entries 0 = .ok (.aload_n 0, 1) := by decide +kernel
theorem dX5_entries_1 : decode cX5_entries 1 = .ok (.iload_n 1, 1) := by decide +kernel
theorem dX5_entries_2 : decode cX5_entries 2 = .ok (.invokevirtual 126, 3) := by decide +kernel
theorem dX5_entries_5 : decode cX5_entries 5 = .ok (.ifCond .ne 13, 3) := by decide +kernel
theorem dX5_entries_18 : decode cX5_entries 18 = .ok (.aload_n 0, 1) := by decide +kernel
theorem dX5_entries_19 : decode cX5_entries 19 = .ok (.getfield 10, 3) := by decide +kernel
theorem dX5_entries_22 : decode cX5_entries 22 = .ok (.iload_n 1, 1) := by decide +kernel
theorem dX5_entries_23 : decode cX5_entries 23 = .ok (.invokevirtual 131, 3) := by decide +kernel
theorem dX5_entries_26 : decode cX5_entries 26 = .ok (.getfield 135, 3) := by decide +kernel
theorem dX5_entries_29 : decode cX5_entries 29 = .ok (.ireturn, 1) := by decide +kernel
theorem dX5_hasEnded_0 : decode cX5_hasEnded 0 = .ok (.aload_n 0, 1) := by decide +kernel
theorem dX5_hasEnded_1 : decode cX5_hasEnded 1 = .ok (.getfield 61, 3) := by decide +kernel
theorem dX5_hasEnded_4 : decode cX5_hasEnded 4 = .ok (.ireturn, 1) := by decide +kernel
theorem dX5_hush_0 : decode cX5_hush 0 = .ok (.aload_n 0, 1) := by decide +kernel
theorem dX5_hush_1 : decode cX5_hush 1 = .ok (.getfield 51, 3) := by decide +kernel
theorem dX5_hush_4 : decode cX5_hush 4 = .ok (.istore_n 1, 1) := by decide +kernel
theorem dX5_hush_5 : decode cX5_hush 5 = .ok (.aload_n 0, 1) := by decide +kernel
theorem dX5_hush_6 : decode cX5_hush 6 = .ok (.iconst 0, 1) := by decide +kernel
theorem dX5_hush_7 : decode cX5_hush 7 = .ok (.putfield 51, 3) := by decide +kernel
theorem dX5_hush_10 : decode cX5_hush 10 = .ok (.iload_n 1, 1) := by decide +kernel
theorem dX5_hush_11 : decode cX5_hush 11 = .ok (.ireturn, 1) := by decide +kernel
theorem dX5_learn_0 : decode cX5_learn 0 = .ok (.iload_n 1, 1) := by decide +kernel
theorem dX5_learn_1 : decode cX5_learn 1 = .ok (.iconst 1, 1) := by decide +kernel
theorem dX5_learn_2 : decode cX5_learn 2 = .ok (.if_icmp .lt 9, 3) := by decide +kernel
theorem dX5_learn_5 : decode cX5_learn 5 = .ok (.iload_n 1, 1) := by decide +kernel
theorem dX5_learn_6 : decode cX5_learn 6 = .ok (.bipush 100, 2) := by decide +kernel
theorem dX5_learn_8 : decode cX5_learn 8 = .ok (.if_icmp .le 13, 3) := by decide +kernel
theorem dX5_learn_21 : decode cX5_learn 21 = .ok (.aload_n 0, 1) := by decide +kernel
theorem dX5_learn_22 : decode cX5_learn 22 = .ok (.getfield 10, 3) := by decide +kernel
theorem dX5_learn_25 : decode cX5_learn 25 = .ok (.getfield 65, 3) := by decide +kernel
theorem dX5_learn_28 : decode cX5_learn 28 = .ok (.ifCond .ne 13, 3) := by decide +kernel
theorem dX5_learn_41 : decode cX5_learn 41 = .ok (.aload_n 0, 1) := by decide +kernel
theorem dX5_learn_42 : decode cX5_learn 42 = .ok (.iload_n 1, 1) := by decide +kernel
theorem dX5_learn_43 : decode cX5_learn 43 = .ok (.invokevirtual 105, 3) := by decide +kernel
theorem dX5_learn_46 : decode cX5_learn 46 = .ok (.aload_n 0, 1) := by decide +kernel
theorem dX5_learn_47 : decode cX5_learn 47 = .ok (.getfield 10, 3) := by decide +kernel
theorem dX5_learn_50 : decode cX5_learn 50 = .ok (.invokevirtual 108, 3) := by decide +kernel
theorem dX5_learn_53 : decode cX5_learn 53 = .ok (.sipush 800, 3) := by decide +kernel
theorem dX5_learn_56 : decode cX5_learn 56 = .ok (.if_icmp .le 19, 3) := by decide +kernel
theorem dX5_learn_75 : decode cX5_learn 75 = .ok (.aload_n 0, 1) := by decide +kernel
theorem dX5_learn_76 : decode cX5_learn 76 = .ok (.getfield 10, 3) := by decide +kernel
theorem dX5_learn_79 : decode cX5_learn 79 = .ok (.invokevirtual 108, 3) := by decide +kernel
theorem dX5_learn_82 : decode cX5_learn 82 = .ok (.ireturn, 1) := by decide +kernel
theorem dX5_length_0 : decode cX5_length 0 = .ok (.aload_n 0, 1) := by decide +kernel
theorem dX5_length_1 : decode cX5_length 1 = .ok (.getfield 51, 3) := by decide +kernel
theorem dX5_length_4 : decode cX5_length 4 = .ok (.ireturn, 1) := by decide +kernel
theorem dX5_ofContext_0 : decode cX5_ofContext 0 = .ok (.aload_n 0, 1) := by decide +kernel
theorem dX5_ofContext_1 : decode cX5_ofContext 1 = .ok (.iload_n 1, 1) := by decide +kernel
theorem dX5_ofContext_2 : decode cX5_ofContext 2 = .ok (.invokevirtual 126, 3) := by decide +kernel
theorem dX5_ofContext_5 : decode cX5_ofContext 5 = .ok (.ifCond .eq 12, 3) := by decide +kernel
theorem dX5_ofContext_8 : decode cX5_ofContext 8 = .ok (.iload_n 2, 1) := by decide +kernel
theorem dX5_ofContext_9 : decode cX5_ofContext 9 = .ok (.ifCond .lt 8, 3) := by decide +kernel
theorem dX5_ofContext_12 : decode cX5_ofContext 12 = .ok (.iload_n 2, 1) := by decide +kernel
theorem dX5_ofContext_13 : decode cX5_ofContext 13 = .ok (.iconst 1, 1) := by decide +kernel
theorem dX5_ofContext_14 : decode cX5_ofContext 14 = .ok (.if_icmp .le 13, 3) := by decide +kernel
theorem dX5_ofContext_27 : decode cX5_ofContext 27 = .ok (.aload_n 0, 1) := by decide +kernel
theorem dX5_ofContext_28 : decode cX5_ofContext 28 = .ok (.iload_n 1, 1) := by decide +kernel
theorem dX5_ofContext_29 : decode cX5_ofContext 29 = .ok (.iload_n 2, 1) := by decide +kernel
theorem dX5_ofContext_30 : decode cX5_ofContext 30 = .ok (.invokevirtual 154, 3) := by decide +kernel
theorem dX5_ofContext_33 : decode cX5_ofContext 33 = .ok (.ireturn, 1) := by decide +kernel
theorem dX5_prune_0 : decode cX5_prune 0 = .ok (.iload_n 1, 1) := by decide +kernel
theorem dX5_prune_1 : decode cX5_prune 1 = .ok (.iconst 2, 1) := by decide +kernel
theorem dX5_prune_2 : decode cX5_prune 2 = .ok (.if_icmp .lt 26, 3) := by decide +kernel
theorem dX5_prune_5 : decode cX5_prune 5 = .ok (.iload_n 1, 1) := by decide +kernel
theorem dX5_prune_6 : decode cX5_prune 6 = .ok (.aload_n 0, 1) := by decide +kernel
theorem dX5_prune_7 : decode cX5_prune 7 = .ok (.getfield 10, 3) := by decide +kernel
theorem dX5_prune_10 : decode cX5_prune 10 = .ok (.getfield 83, 3) := by decide +kernel
theorem dX5_prune_13 : decode cX5_prune 13 = .ok (.if_icmp .gt 15, 3) := by decide +kernel
theorem dX5_prune_16 : decode cX5_prune 16 = .ok (.iload_n 2, 1) := by decide +kernel
theorem dX5_prune_17 : decode cX5_prune 17 = .ok (.iconst 1, 1) := by decide +kernel
theorem dX5_prune_18 : decode cX5_prune 18 = .ok (.if_icmp .lt 10, 3) := by decide +kernel
theorem dX5_prune_21 : decode cX5_prune 21 = .ok (.iload_n 2, 1) := by decide +kernel
theorem dX5_prune_22 : decode cX5_prune 22 = .ok (.sipush 1000, 3) := by decide +kernel
theorem dX5_prune_25 : decode cX5_prune 25 = .ok (.if_icmp .le 13, 3) := by decide +kernel
theorem dX5_prune_38 : decode cX5_prune 38 = .ok (.aload_n 0, 1) := by decide +kernel
theorem dX5_prune_39 : decode cX5_prune 39 = .ok (.getfield 10, 3) := by decide +kernel
theorem dX5_prune_42 : decode cX5_prune 42 = .ok (.iload_n 1, 1) := by decide +kernel
theorem dX5_prune_43 : decode cX5_prune 43 = .ok (.invokevirtual 131, 3) := by decide +kernel
theorem dX5_prune_46 : decode cX5_prune 46 = .ok (.astore_n 3, 1) := by decide +kernel
theorem dX5_prune_47 : decode cX5_prune 47 = .ok (.iconst 0, 1) := by decide +kernel
theorem dX5_prune_48 : decode cX5_prune 48 = .ok (.istore 4, 2) := by decide +kernel
theorem dX5_prune_50 : decode cX5_prune 50 = .ok (.iload 4, 2) := by decide +kernel
theorem dX5_prune_52 : decode cX5_prune 52 = .ok (.aload_n 3, 1) := by decide +kernel
theorem dX5_prune_53 : decode cX5_prune 53 = .ok (.getfield 135, 3) := by decide +kernel
theorem dX5_prune_56 : decode cX5_prune 56 = .ok (.if_icmp .ge 32, 3) := by decide +kernel
theorem dX5_prune_59 : decode cX5_prune 59 = .ok (.aload_n 0, 1) := by decide +kernel
theorem dX5_prune_60 : decode cX5_prune 60 = .ok (.getfield 43, 3) := by decide +kernel
theorem dX5_prune_63 : decode cX5_prune 63 = .ok (.iload 4, 2) := by decide +kernel
theorem dX5_prune_65 : decode cX5_prune 65 = .ok (.aload_n 3, 1) := by decide +kernel
theorem dX5_prune_66 : decode cX5_prune 66 = .ok (.getfield 149, 3) := by decide +kernel
theorem dX5_prune_69 : decode cX5_prune 69 = .ok (.iload 4, 2) := by decide +kernel
theorem dX5_prune_71 : decode cX5_prune 71 = .ok (.iaload, 1) := by decide +kernel
theorem dX5_prune_72 : decode cX5_prune 72 = .ok (.iload_n 2, 1) := by decide +kernel
theorem dX5_prune_73 : decode cX5_prune 73 = .ok (.if_icmp .ge 7, 3) := by decide +kernel
theorem dX5_prune_76 : decode cX5_prune 76 = .ok (.iconst 1, 1) := by decide +kernel
theorem dX5_prune_77 : decode cX5_prune 77 = .ok (.goto 4, 3) := by decide +kernel
theorem dX5_prune_80 : decode cX5_prune 80 = .ok (.iconst 0, 1) := by decide +kernel
theorem dX5_prune_81 : decode cX5_prune 81 = .ok (.bastore, 1) := by decide +kernel
theorem dX5_prune_82 : decode cX5_prune 82 = .ok (.iinc 4 1, 3) := by decide +kernel
theorem dX5_prune_85 : decode cX5_prune 85 = .ok (.goto (-35), 3) := by decide +kernel
theorem dX5_prune_88 : decode cX5_prune 88 = .ok (.aload_n 0, 1) := by decide +kernel
theorem dX5_prune_89 : decode cX5_prune 89 = .ok (.iload_n 1, 1) := by decide +kernel
theorem dX5_prune_90 : decode cX5_prune 90 = .ok (.invokevirtual 160, 3) := by decide +kernel
theorem dX5_prune_93 : decode cX5_prune 93 = .ok (.ireturn, 1) := by decide +kernel
theorem dX5_ranked_0 : decode cX5_ranked 0 = .ok (.iload_n 1, 1) := by decide +kernel
theorem dX5_ranked_1 : decode cX5_ranked 1 = .ok (.ifCond .lt 14, 3) := by decide +kernel
theorem dX5_ranked_4 : decode cX5_ranked 4 = .ok (.iload_n 1, 1) := by decide +kernel
theorem dX5_ranked_5 : decode cX5_ranked 5 = .ok (.aload_n 0, 1) := by decide +kernel
theorem dX5_ranked_6 : decode cX5_ranked 6 = .ok (.getfield 10, 3) := by decide +kernel
theorem dX5_ranked_9 : decode cX5_ranked 9 = .ok (.getfield 65, 3) := by decide +kernel
theorem dX5_ranked_12 : decode cX5_ranked 12 = .ok (.if_icmp .le 13, 3) := by decide +kernel
theorem dX5_ranked_25 : decode cX5_ranked 25 = .ok (.aload_n 0, 1) := by decide +kernel
theorem dX5_ranked_26 : decode cX5_ranked 26 = .ok (.invokevirtual 183, 3) := by decide +kernel
theorem dX5_ranked_29 : decode cX5_ranked 29 = .ok (.aload_n 0, 1) := by decide +kernel
theorem dX5_ranked_30 : decode cX5_ranked 30 = .ok (.getfield 21, 3) := by decide +kernel
theorem dX5_ranked_33 : decode cX5_ranked 33 = .ok (.iload_n 1, 1) := by decide +kernel
theorem dX5_ranked_34 : decode cX5_ranked 34 = .ok (.invokevirtual 191, 3) := by decide +kernel
theorem dX5_ranked_37 : decode cX5_ranked 37 = .ok (.ireturn, 1) := by decide +kernel
theorem dX5_say_0 : decode cX5_say 0 = .ok (.aload_n 0, 1) := by decide +kernel
theorem dX5_say_1 : decode cX5_say 1 = .ok (.iload_n 1, 1) := by decide +kernel
theorem dX5_say_2 : decode cX5_say 2 = .ok (.invokevirtual 86, 3) := by decide +kernel
theorem dX5_say_5 : decode cX5_say 5 = .ok (.ifCond .ne 13, 3) := by decide +kernel
theorem dX5_say_18 : decode cX5_say 18 = .ok (.aload_n 0, 1) := by decide +kernel
theorem dX5_say_19 : decode cX5_say 19 = .ok (.getfield 51, 3) := by decide +kernel
theorem dX5_say_22 : decode cX5_say 22 = .ok (.bipush 12, 2) := by decide +kernel
theorem dX5_say_24 : decode cX5_say 24 = .ok (.if_icmp .lt 13, 3) := by decide +kernel
theorem dX5_say_37 : decode cX5_say 37 = .ok (.aload_n 0, 1) := by decide +kernel
theorem dX5_say_38 : decode cX5_say 38 = .ok (.iload_n 1, 1) := by decide +kernel
theorem dX5_say_39 : decode cX5_say 39 = .ok (.invokevirtual 97, 3) := by decide +kernel
theorem dX5_say_42 : decode cX5_say 42 = .ok (.aload_n 0, 1) := by decide +kernel
theorem dX5_say_43 : decode cX5_say 43 = .ok (.getfield 51, 3) := by decide +kernel
theorem dX5_say_46 : decode cX5_say 46 = .ok (.ireturn, 1) := by decide +kernel
theorem dX5_score_0 : decode cX5_score 0 = .ok (.aload_n 0, 1) := by decide +kernel
theorem dX5_score_1 : decode cX5_score 1 = .ok (.invokevirtual 197, 3) := by decide +kernel
theorem dX5_score_4 : decode cX5_score 4 = .ok (.ireturn, 1) := by decide +kernel
theorem dX5_scoreBy_0 : decode cX5_scoreBy 0 = .ok (.iload_n 1, 1) := by decide +kernel
theorem dX5_scoreBy_1 : decode cX5_scoreBy 1 = .ok (.iload_n 2, 1) := by decide +kernel
theorem dX5_scoreBy_2 : decode cX5_scoreBy 2 = .ok (.invokestatic 169, 3) := by decide +kernel
theorem dX5_scoreBy_5 : decode cX5_scoreBy 5 = .ok (.ifCond .ne 13, 3) := by decide +kernel
theorem dX5_scoreBy_18 : decode cX5_scoreBy 18 = .ok (.aload_n 0, 1) := by decide +kernel
theorem dX5_scoreBy_19 : decode cX5_scoreBy 19 = .ok (.getfield 21, 3) := by decide +kernel
theorem dX5_scoreBy_22 : decode cX5_scoreBy 22 = .ok (.getfield 175, 3) := by decide +kernel
theorem dX5_scoreBy_25 : decode cX5_scoreBy 25 = .ok (.istore_n 3, 1) := by decide +kernel
theorem dX5_scoreBy_26 : decode cX5_scoreBy 26 = .ok (.aload_n 0, 1) := by decide +kernel
theorem dX5_scoreBy_27 : decode cX5_scoreBy 27 = .ok (.getfield 21, 3) := by decide +kernel
theorem dX5_scoreBy_30 : decode cX5_scoreBy 30 = .ok (.getfield 178, 3) := by decide +kernel
theorem dX5_scoreBy_33 : decode cX5_scoreBy 33 = .ok (.istore 4, 2) := by decide +kernel
theorem dX5_scoreBy_35 : decode cX5_scoreBy 35 = .ok (.aload_n 0, 1) := by decide +kernel
theorem dX5_scoreBy_36 : decode cX5_scoreBy 36 = .ok (.getfield 21, 3) := by decide +kernel
theorem dX5_scoreBy_39 : decode cX5_scoreBy 39 = .ok (.iload_n 1, 1) := by decide +kernel
theorem dX5_scoreBy_40 : decode cX5_scoreBy 40 = .ok (.putfield 175, 3) := by decide +kernel
theorem dX5_scoreBy_43 : decode cX5_scoreBy 43 = .ok (.aload_n 0, 1) := by decide +kernel
theorem dX5_scoreBy_44 : decode cX5_scoreBy 44 = .ok (.getfield 21, 3) := by decide +kernel
theorem dX5_scoreBy_47 : decode cX5_scoreBy 47 = .ok (.iload_n 2, 1) := by decide +kernel
theorem dX5_scoreBy_48 : decode cX5_scoreBy 48 = .ok (.putfield 178, 3) := by decide +kernel
theorem dX5_scoreBy_51 : decode cX5_scoreBy 51 = .ok (.aload_n 0, 1) := by decide +kernel
theorem dX5_scoreBy_52 : decode cX5_scoreBy 52 = .ok (.invokevirtual 197, 3) := by decide +kernel
theorem dX5_scoreBy_55 : decode cX5_scoreBy 55 = .ok (.istore 5, 2) := by decide +kernel
theorem dX5_scoreBy_57 : decode cX5_scoreBy 57 = .ok (.aload_n 0, 1) := by decide +kernel
theorem dX5_scoreBy_58 : decode cX5_scoreBy 58 = .ok (.getfield 21, 3) := by decide +kernel
theorem dX5_scoreBy_61 : decode cX5_scoreBy 61 = .ok (.iload_n 3, 1) := by decide +kernel
theorem dX5_scoreBy_62 : decode cX5_scoreBy 62 = .ok (.putfield 175, 3) := by decide +kernel
theorem dX5_scoreBy_65 : decode cX5_scoreBy 65 = .ok (.aload_n 0, 1) := by decide +kernel
theorem dX5_scoreBy_66 : decode cX5_scoreBy 66 = .ok (.getfield 21, 3) := by decide +kernel
theorem dX5_scoreBy_69 : decode cX5_scoreBy 69 = .ok (.iload 4, 2) := by decide +kernel
theorem dX5_scoreBy_71 : decode cX5_scoreBy 71 = .ok (.putfield 178, 3) := by decide +kernel
theorem dX5_scoreBy_74 : decode cX5_scoreBy 74 = .ok (.iload 5, 2) := by decide +kernel
theorem dX5_scoreBy_76 : decode cX5_scoreBy 76 = .ok (.ireturn, 1) := by decide +kernel
theorem dX5_scoreLearned_0 : decode cX5_scoreLearned 0 = .ok (.iload_n 1, 1) := by decide +kernel
theorem dX5_scoreLearned_1 : decode cX5_scoreLearned 1 = .ok (.iconst 1, 1) := by decide +kernel
theorem dX5_scoreLearned_2 : decode cX5_scoreLearned 2 = .ok (.if_icmp .lt 9, 3) := by decide +kernel
theorem dX5_scoreLearned_5 : decode cX5_scoreLearned 5 = .ok (.iload_n 1, 1) := by decide +kernel
theorem dX5_scoreLearned_6 : decode cX5_scoreLearned 6 = .ok (.bipush 100, 2) := by decide +kernel
theorem dX5_scoreLearned_8 : decode cX5_scoreLearned 8 = .ok (.if_icmp .le 13, 3) := by decide +kernel
theorem dX5_scoreLearned_21 : decode cX5_scoreLearned 21 = .ok (.aload_n 0, 1) := by decide +kernel
theorem dX5_scoreLearned_22 : decode cX5_scoreLearned 22 = .ok (.getfield 10, 3) := by decide +kernel
theorem dX5_scoreLearned_25 : decode cX5_scoreLearned 25 = .ok (.getfield 65, 3) := by decide +kernel
theorem dX5_scoreLearned_28 : decode cX5_scoreLearned 28 = .ok (.ifCond .ne 13, 3) := by decide +kernel
theorem dX5_scoreLearned_41 : decode cX5_scoreLearned 41 = .ok (.aload_n 0, 1) := by decide +kernel
theorem dX5_scoreLearned_42 : decode cX5_scoreLearned 42 = .ok (.iload_n 1, 1) := by decide +kernel
theorem dX5_scoreLearned_43 : decode cX5_scoreLearned 43 = .ok (.invokevirtual 105, 3) := by decide +kernel
theorem dX5_scoreLearned_46 : decode cX5_scoreLearned 46 = .ok (.aload_n 0, 1) := by decide +kernel
theorem dX5_scoreLearned_47 : decode cX5_scoreLearned 47 = .ok (.invokevirtual 197, 3) := by decide +kernel
theorem dX5_scoreLearned_50 : decode cX5_scoreLearned 50 = .ok (.istore_n 2, 1) := by decide +kernel
theorem dX5_scoreLearned_51 : decode cX5_scoreLearned 51 = .ok (.aload_n 0, 1) := by decide +kernel
theorem dX5_scoreLearned_52 : decode cX5_scoreLearned 52 = .ok (.iload_n 1, 1) := by decide +kernel
theorem dX5_scoreLearned_53 : decode cX5_scoreLearned 53 = .ok (.invokevirtual 112, 3) := by decide +kernel
theorem dX5_scoreLearned_56 : decode cX5_scoreLearned 56 = .ok (.pop, 1) := by decide +kernel
theorem dX5_scoreLearned_57 : decode cX5_scoreLearned 57 = .ok (.iload_n 2, 1) := by decide +kernel
theorem dX5_scoreLearned_58 : decode cX5_scoreLearned 58 = .ok (.ireturn, 1) := by decide +kernel
theorem dX5_setOrder_0 : decode cX5_setOrder 0 = .ok (.iload_n 1, 1) := by decide +kernel
theorem dX5_setOrder_1 : decode cX5_setOrder 1 = .ok (.iconst 1, 1) := by decide +kernel
theorem dX5_setOrder_2 : decode cX5_setOrder 2 = .ok (.if_icmp .lt 8, 3) := by decide +kernel
theorem dX5_setOrder_5 : decode cX5_setOrder 5 = .ok (.iload_n 1, 1) := by decide +kernel
theorem dX5_setOrder_6 : decode cX5_setOrder 6 = .ok (.iconst 4, 1) := by decide +kernel
theorem dX5_setOrder_7 : decode cX5_setOrder 7 = .ok (.if_icmp .le 13, 3) := by decide +kernel
theorem dX5_setOrder_20 : decode cX5_setOrder 20 = .ok (.aload_n 0, 1) := by decide +kernel
theorem dX5_setOrder_21 : decode cX5_setOrder 21 = .ok (.getfield 10, 3) := by decide +kernel
theorem dX5_setOrder_24 : decode cX5_setOrder 24 = .ok (.getfield 83, 3) := by decide +kernel
theorem dX5_setOrder_27 : decode cX5_setOrder 27 = .ok (.istore_n 2, 1) := by decide +kernel
theorem dX5_setOrder_28 : decode cX5_setOrder 28 = .ok (.aload_n 0, 1) := by decide +kernel
theorem dX5_setOrder_29 : decode cX5_setOrder 29 = .ok (.getfield 10, 3) := by decide +kernel
theorem dX5_setOrder_32 : decode cX5_setOrder 32 = .ok (.invokevirtual 75, 3) := by decide +kernel
theorem dX5_setOrder_35 : decode cX5_setOrder 35 = .ok (.aload_n 0, 1) := by decide +kernel
theorem dX5_setOrder_36 : decode cX5_setOrder 36 = .ok (.getfield 10, 3) := by decide +kernel
theorem dX5_setOrder_39 : decode cX5_setOrder 39 = .ok (.iload_n 1, 1) := by decide +kernel
theorem dX5_setOrder_40 : decode cX5_setOrder 40 = .ok (.putfield 83, 3) := by decide +kernel
theorem dX5_setOrder_43 : decode cX5_setOrder 43 = .ok (.iload_n 2, 1) := by decide +kernel
theorem dX5_setOrder_44 : decode cX5_setOrder 44 = .ok (.ireturn, 1) := by decide +kernel
theorem dX5_setWay_0 : decode cX5_setWay 0 = .ok (.iload_n 1, 1) := by decide +kernel
theorem dX5_setWay_1 : decode cX5_setWay 1 = .ok (.iload_n 2, 1) := by decide +kernel
theorem dX5_setWay_2 : decode cX5_setWay 2 = .ok (.invokestatic 169, 3) := by decide +kernel
theorem dX5_setWay_5 : decode cX5_setWay 5 = .ok (.ifCond .ne 13, 3) := by decide +kernel
theorem dX5_setWay_18 : decode cX5_setWay 18 = .ok (.aload_n 0, 1) := by decide +kernel
theorem dX5_setWay_19 : decode cX5_setWay 19 = .ok (.getfield 21, 3) := by decide +kernel
theorem dX5_setWay_22 : decode cX5_setWay 22 = .ok (.getfield 175, 3) := by decide +kernel
theorem dX5_setWay_25 : decode cX5_setWay 25 = .ok (.istore_n 3, 1) := by decide +kernel
theorem dX5_setWay_26 : decode cX5_setWay 26 = .ok (.aload_n 0, 1) := by decide +kernel
theorem dX5_setWay_27 : decode cX5_setWay 27 = .ok (.getfield 21, 3) := by decide +kernel
theorem dX5_setWay_30 : decode cX5_setWay 30 = .ok (.iload_n 1, 1) := by decide +kernel
theorem dX5_setWay_31 : decode cX5_setWay 31 = .ok (.putfield 175, 3) := by decide +kernel
theorem dX5_setWay_34 : decode cX5_setWay 34 = .ok (.aload_n 0, 1) := by decide +kernel
theorem dX5_setWay_35 : decode cX5_setWay 35 = .ok (.getfield 21, 3) := by decide +kernel
theorem dX5_setWay_38 : decode cX5_setWay 38 = .ok (.iload_n 2, 1) := by decide +kernel
theorem dX5_setWay_39 : decode cX5_setWay 39 = .ok (.putfield 178, 3) := by decide +kernel
theorem dX5_setWay_42 : decode cX5_setWay 42 = .ok (.iload_n 3, 1) := by decide +kernel
theorem dX5_setWay_43 : decode cX5_setWay 43 = .ok (.ireturn, 1) := by decide +kernel
theorem dX5_unlearn_0 : decode cX5_unlearn 0 = .ok (.aload_n 0, 1) := by decide +kernel
theorem dX5_unlearn_1 : decode cX5_unlearn 1 = .ok (.invokevirtual 118, 3) := by decide +kernel
theorem dX5_unlearn_4 : decode cX5_unlearn 4 = .ok (.ifCond .ne 13, 3) := by decide +kernel
theorem dX5_unlearn_17 : decode cX5_unlearn 17 = .ok (.aload_n 0, 1) := by decide +kernel
theorem dX5_unlearn_18 : decode cX5_unlearn 18 = .ok (.iconst 1, 1) := by decide +kernel
theorem dX5_unlearn_19 : decode cX5_unlearn 19 = .ok (.invokevirtual 112, 3) := by decide +kernel
theorem dX5_unlearn_22 : decode cX5_unlearn 22 = .ok (.ireturn, 1) := by decide +kernel
theorem dX5_wordAt_0 : decode cX5_wordAt 0 = .ok (.iload_n 1, 1) := by decide +kernel
theorem dX5_wordAt_1 : decode cX5_wordAt 1 = .ok (.ifCond .lt 11, 3) := by decide +kernel
theorem dX5_wordAt_4 : decode cX5_wordAt 4 = .ok (.iload_n 1, 1) := by decide +kernel
theorem dX5_wordAt_5 : decode cX5_wordAt 5 = .ok (.aload_n 0, 1) := by decide +kernel
theorem dX5_wordAt_6 : decode cX5_wordAt 6 = .ok (.getfield 51, 3) := by decide +kernel
theorem dX5_wordAt_9 : decode cX5_wordAt 9 = .ok (.if_icmp .lt 13, 3) := by decide +kernel
theorem dX5_wordAt_22 : decode cX5_wordAt 22 = .ok (.aload_n 0, 1) := by decide +kernel
theorem dX5_wordAt_23 : decode cX5_wordAt 23 = .ok (.getfield 47, 3) := by decide +kernel
theorem dX5_wordAt_26 : decode cX5_wordAt 26 = .ok (.iload_n 1, 1) := by decide +kernel
theorem dX5_wordAt_27 : decode cX5_wordAt 27 = .ok (.iaload, 1) := by decide +kernel
theorem dX5_wordAt_28 : decode cX5_wordAt 28 = .ok (.ireturn, 1) := by decide +kernel
theorem dX5_wouldDraw_0 : decode cX5_wouldDraw 0 = .ok (.aload_n 0, 1) := by decide +kernel
theorem dX5_wouldDraw_1 : decode cX5_wouldDraw 1 = .ok (.getfield 10, 3) := by decide +kernel
theorem dX5_wouldDraw_4 : decode cX5_wouldDraw 4 = .ok (.getfield 65, 3) := by decide +kernel
theorem dX5_wouldDraw_7 : decode cX5_wouldDraw 7 = .ok (.ifCond .ne 13, 3) := by decide +kernel
theorem dX5_wouldDraw_20 : decode cX5_wouldDraw 20 = .ok (.aload_n 0, 1) := by decide +kernel
theorem dX5_wouldDraw_21 : decode cX5_wouldDraw 21 = .ok (.invokevirtual 183, 3) := by decide +kernel
theorem dX5_wouldDraw_24 : decode cX5_wouldDraw 24 = .ok (.aload_n 0, 1) := by decide +kernel
theorem dX5_wouldDraw_25 : decode cX5_wouldDraw 25 = .ok (.getfield 21, 3) := by decide +kernel
theorem dX5_wouldDraw_28 : decode cX5_wouldDraw 28 = .ok (.aload_n 0, 1) := by decide +kernel
theorem dX5_wouldDraw_29 : decode cX5_wouldDraw 29 = .ok (.getfield 55, 3) := by decide +kernel
theorem dX5_wouldDraw_32 : decode cX5_wouldDraw 32 = .ok (.invokestatic 244, 3) := by decide +kernel
theorem dX5_wouldDraw_35 : decode cX5_wouldDraw 35 = .ok (.aload_n 0, 1) := by decide +kernel
theorem dX5_wouldDraw_36 : decode cX5_wouldDraw 36 = .ok (.invokevirtual 247, 3) := by decide +kernel
theorem dX5_wouldDraw_39 : decode cX5_wouldDraw 39 = .ok (.invokevirtual 250, 3) := by decide +kernel
theorem dX5_wouldDraw_42 : decode cX5_wouldDraw 42 = .ok (.ireturn, 1) := by decide +kernel
set_option maxHeartbeats 4000000 in
set_option maxRecDepth 100000 in
theorem mX5_addWord (l : Launch) (D : va_G) (κ a : Nat → Nat) (ε : Nat) (V N way num m : Nat) (S : List Nat) (T : Nat → List (Nat × Nat)) (u : US) (hA : AB V N way num m S T u) (hV9 : V < 12) : Ct (W0 κ a) l D κ ε yX5_addWord cX5_addWord 1 (some .int) 3 63 0 0 u [.ref (a 0)] (fun v u' => v = some (.int (iI (V : Int))) ∧ Fr (0 :: 4 :: tS) [] u u' ∧ AB (V + 1) N way num 0 [] (fun _ => []) u') := by
  obtain ⟨⟨hV, hN, hway, hnum, hm, hSl, hSV⟩, eV, eN, ew, en, ⟨eS, hS⟩, hT⟩ := id hA
  refine Ct.of (own := RX5) rfl (by decide +kernel) (Nat.le_of_ble_eq_true rfl) rfl (fun Γ h => ?_)
  refine w_aload_n h (pc := 0) dX5_addWord_0 rfl ?_
  refine g0_ledger h (pc := 1) wm_16 dX5_addWord_1 ?_
  refine g1_words h (pc := 4) eV wm_113 dX5_addWord_4 ?_
  refine w_bipush h (pc := 7) dX5_addWord_7 (by decide) ?_
  refine w_icmp_lt h (pc := 9) (tgt := 22) dX5_addWord_9 (by decide) (by omega) (by omega) (fun c9 => ?_) (fun c9 => by exfalso; omega)
  refine w_aload_n h (pc := 22) dX5_addWord_22 rfl ?_
  refine g0_ledger h (pc := 23) wm_16 dX5_addWord_23 ?_
  refine w_callV0 h (pc := 26) (mX0_forgetAll l D κ a ε u) 1 rfl rfl (gdV wm_114 wm_115 wm_116 wm_15 wm_117) (by decide +kernel) ⟨(Nat.le_of_ble_eq_true rfl), (Nat.le_of_ble_eq_true rfl)⟩ ⟨(Nat.le_of_ble_eq_true rfl), (Nat.le_of_ble_eq_true rfl)⟩ (fun _ _ _ => ⟨rfl, rfl⟩) (Nat.le_of_ble_eq_true rfl) dX5_addWord_26 (fun v1 u1 hp1 => ?_)
  obtain ⟨rfl, hF1, hz1⟩ := hp1
  have eV1 : u1.1 4 = (V : Int) := (hF1.1 4 (by simp [tS])).trans eV
  simp only [Option.toList_none, List.nil_append]
  refine w_aload_n h (pc := 29) dX5_addWord_29 rfl ?_
  refine w_iconst h (pc := 30) dX5_addWord_30 ?_
  refine p0_length h (pc := 31) wm_33 dX5_addWord_31 ?_
  refine w_aload_n h (pc := 34) dX5_addWord_34 rfl ?_
  refine g0_ledger h (pc := 35) wm_16 dX5_addWord_35 ?_
  refine w_dup h (pc := 38) dX5_addWord_38 rfl ?_
  refine g1_words h (pc := 39) eV1 wm_113 dX5_addWord_39 ?_
  refine w_iconst h (pc := 42) dX5_addWord_42 ?_
  refine w_iadd h (pc := 43) dX5_addWord_43 ?_
  refine p1_words h (pc := 44) wm_113 dX5_addWord_44 ?_
  refine w_aload_n h (pc := 47) dX5_addWord_47 rfl ?_
  refine g0_ledger h (pc := 48) wm_16 dX5_addWord_48 ?_
  refine g1_words h (pc := 51) (uS_at _ _ _) wm_113 dX5_addWord_51 ?_
  refine w_iconst h (pc := 54) dX5_addWord_54 ?_
  have hr : ((V : Int) + 1 - 1) = (V : Int) := by omega
  refine w_isub h (pc := 55) dX5_addWord_55 ?_
  exact w_iret h (pc := 56) (ty := .int) rfl rfl dX5_addWord_56 (Nat.le_of_ble_eq_true rfl) (Nat.le_of_ble_eq_true rfl) ⟨by rw [hr], ((hF1.mono (by simp [tS]) (by simp)).tr (Fr.S (by simp))).tr (Fr.S (by simp)), ⟨by omega, hN, hway, hnum, by omega, by simp, by simp⟩, uS_at _ _ _, (hF1.1 5 (by simp [tS])).trans eN, (hF1.1 6 (by simp [tS])).trans ew, (hF1.1 7 (by simp [tS])).trans en, ⟨rfl, fun j w hw => by simp at hw⟩, TA_nil (fun i hi => by show (uS (uS u1 0 0) 4 _).1 (12 + i) = 0; rw [uS_ne _ _ (by omega), uS_ne _ _ (by omega)]; exact hz1 i hi)⟩

set_option maxHeartbeats 4000000 in
set_option maxRecDepth 100000 in
theorem mX5_setOrder (l : Launch) (D : va_G) (κ a : Nat → Nat) (ε : Nat) (V N way num m : Nat) (S : List Nat) (T : Nat → List (Nat × Nat)) (u : US) (hA : AB V N way num m S T u) (n : Nat) (hn : 1 ≤ n ∧ n ≤ 4) : Ct (W0 κ a) l D κ ε yX5_setOrder cX5_setOrder 3 (some .int) 3 63 0 0 u [.ref (a 0), .int (iI (n : Int))] (fun v u' => v = some (.int (iI (N : Int))) ∧ Fr (5 :: tS) [] u u' ∧ AB V n way num 0 S (fun _ => []) u') := by
  obtain ⟨⟨hV, hN, hway, hnum, hm, hSl, hSV⟩, eV, eN, ew, en, ⟨eS, hS⟩, hT⟩ := id hA
  refine Ct.of (own := RX5) rfl (by decide +kernel) (Nat.le_of_ble_eq_true rfl) rfl (fun Γ h => ?_)
  refine w_iload_n h (pc := 0) dX5_setOrder_0 rfl ?_
  refine w_iconst h (pc := 1) dX5_setOrder_1 ?_
  refine w_icmp_lt h (pc := 2) (tgt := 10) dX5_setOrder_2 (by decide) (by omega) (by omega) (fun c2 => by exfalso; omega) (fun c2 => ?_)
  refine w_iload_n h (pc := 5) dX5_setOrder_5 rfl ?_
  refine w_iconst h (pc := 6) dX5_setOrder_6 ?_
  refine w_icmp_le h (pc := 7) (tgt := 20) dX5_setOrder_7 (by decide) (by omega) (by omega) (fun c7 => ?_) (fun c7 => by exfalso; omega)
  refine w_aload_n h (pc := 20) dX5_setOrder_20 rfl ?_
  refine g0_ledger h (pc := 21) wm_16 dX5_setOrder_21 ?_
  refine g1_order h (pc := 24) eN wm_140 dX5_setOrder_24 ?_
  refine w_istore_n h (pc := 27) dX5_setOrder_27 (by decide) ?_
  refine w_aload_n h (pc := 28) dX5_setOrder_28 rfl ?_
  refine g0_ledger h (pc := 29) wm_16 dX5_setOrder_29 ?_
  refine w_callV0 h (pc := 32) (mX0_forgetAll l D κ a ε u) 1 rfl rfl (gdV wm_114 wm_115 wm_116 wm_15 wm_117) (by decide +kernel) ⟨(Nat.le_of_ble_eq_true rfl), (Nat.le_of_ble_eq_true rfl)⟩ ⟨(Nat.le_of_ble_eq_true rfl), (Nat.le_of_ble_eq_true rfl)⟩ (fun _ _ _ => ⟨rfl, rfl⟩) (Nat.le_of_ble_eq_true rfl) dX5_setOrder_32 (fun v1 u1 hp1 => ?_)
  obtain ⟨rfl, hF1, hz1⟩ := hp1
  simp only [Option.toList_none, List.nil_append]
  refine w_aload_n h (pc := 35) dX5_setOrder_35 rfl ?_
  refine g0_ledger h (pc := 36) wm_16 dX5_setOrder_36 ?_
  refine w_iload_n h (pc := 39) dX5_setOrder_39 rfl ?_
  refine p1_order h (pc := 40) wm_140 dX5_setOrder_40 ?_
  refine w_iload_n h (pc := 43) dX5_setOrder_43 rfl ?_
  exact w_iret h (pc := 44) (ty := .int) rfl rfl dX5_setOrder_44 (Nat.le_of_ble_eq_true rfl) (Nat.le_of_ble_eq_true rfl) ⟨rfl, (hF1.mono (by simp [tS]) (by simp)).tr (Fr.S (by simp)), ⟨hV, hn, hway, hnum, by omega, hSl, hSV⟩, (hF1.1 4 (by simp [tS])).trans eV, uS_at _ _ _, (hF1.1 6 (by simp [tS])).trans ew, (hF1.1 7 (by simp [tS])).trans en, ⟨(hF1.1 0 (by simp [tS])).trans eS, fun j w hw => by rw [uS_2, hF1.2 6 (by simp)]; exact hS j w hw⟩, TA_nil (fun i hi => by rw [uS_ne _ _ (by omega)]; exact hz1 i hi)⟩

set_option maxHeartbeats 4000000 in
set_option maxRecDepth 100000 in
theorem mX5_say (l : Launch) (D : va_G) (κ a : Nat → Nat) (ε : Nat) (V N way num m : Nat) (S : List Nat) (T : Nat → List (Nat × Nat)) (u : US) (hA : AB V N way num m S T u) (w : Nat) (hw : w < V) (hl9 : S.length < 12) : Ct (W0 κ a) l D κ ε yX5_say cX5_say 2 (some .int) 1 21 0 0 u [.ref (a 0), .int (iI (w : Int))] (fun v u' => v = some (.int (iI ((S.length + 1 : Nat) : Int))) ∧ Fr [0] [6] u u' ∧ AB V N way num m (S ++ [w]) T u') := by
  obtain ⟨⟨hV, hN, hway, hnum, hm, hSl, hSV⟩, eV, eN, ew, en, ⟨eS, hS⟩, hT⟩ := id hA
  refine Ct.of (own := RX5) rfl (by decide +kernel) (Nat.le_of_ble_eq_true rfl) rfl (fun Γ h => ?_)
  refine w_aload_n h (pc := 0) dX5_say_0 rfl ?_
  refine w_iload_n h (pc := 1) dX5_say_1 rfl ?_
  refine w_callV1 h (pc := 2) (mX5_isWord l D κ a ε V N way num m S T u hA w hw) 0 rfl rfl (gdV wm_154 wm_155 wm_156 wm_2 wm_157) (by decide +kernel) ⟨(Nat.le_of_ble_eq_true rfl), (Nat.le_of_ble_eq_true rfl)⟩ ⟨(Nat.le_of_ble_eq_true rfl), (Nat.le_of_ble_eq_true rfl)⟩ (fun _ _ _ => ⟨rfl, rfl⟩) (Nat.le_of_ble_eq_true rfl) dX5_say_2 (fun v1 u1 hp1 => ?_)
  obtain ⟨rfl, e1⟩ := hp1
  obtain rfl := e1.symm
  simp only [Option.toList_some, List.cons_append, List.nil_append]
  refine w_if_ne h (pc := 5) (tgt := 18) dX5_say_5 (by decide) (by omega) (fun c5 => ?_) (fun c5 => by exfalso; omega)
  refine w_aload_n h (pc := 18) dX5_say_18 rfl ?_
  refine g0_length h (pc := 19) eS wm_33 dX5_say_19 ?_
  refine w_bipush h (pc := 22) dX5_say_22 (by decide) ?_
  refine w_icmp_lt h (pc := 24) (tgt := 37) dX5_say_24 (by decide) (by omega) (by omega) (fun c24 => ?_) (fun c24 => by exfalso; omega)
  refine w_aload_n h (pc := 37) dX5_say_37 rfl ?_
  refine w_iload_n h (pc := 38) dX5_say_38 rfl ?_
  refine w_callV1 h (pc := 39) (mX5_append l D κ a ε V N way num m S T u hA w hw hl9) 0 rfl rfl (gdV wm_158 wm_159 wm_160 wm_2 wm_161) (by decide +kernel) ⟨(Nat.le_of_ble_eq_true rfl), (Nat.le_of_ble_eq_true rfl)⟩ ⟨(Nat.le_of_ble_eq_true rfl), (Nat.le_of_ble_eq_true rfl)⟩ (fun _ _ _ => ⟨rfl, rfl⟩) (Nat.le_of_ble_eq_true rfl) dX5_say_39 (fun v2 u2 hp2 => ?_)
  obtain ⟨rfl, hF2, hA2⟩ := hp2
  have eS2 : u2.1 0 = ((S.length + 1 : Nat) : Int) := by rw [hA2.2.2.2.2.2.1.1, List.length_append]; rfl
  simp only [Option.toList_none, List.nil_append]
  refine w_aload_n h (pc := 42) dX5_say_42 rfl ?_
  refine g0_length h (pc := 43) eS2 wm_33 dX5_say_43 ?_
  exact w_iret h (pc := 46) (ty := .int) rfl rfl dX5_say_46 (Nat.le_of_ble_eq_true rfl) (Nat.le_of_ble_eq_true rfl) ⟨rfl, hF2, hA2⟩

set_option maxHeartbeats 4000000 in
set_option maxRecDepth 100000 in
theorem mX5_hush (l : Launch) (D : va_G) (κ a : Nat → Nat) (ε : Nat) (V N way num m : Nat) (S : List Nat) (T : Nat → List (Nat × Nat)) (u : US) (hA : AB V N way num m S T u) : Ct (W0 κ a) l D κ ε yX5_hush cX5_hush 2 (some .int) 0 0 0 0 u [.ref (a 0)] (fun v u' => v = some (.int (iI (S.length : Int))) ∧ Fr [0] [] u u' ∧ AB V N way num m [] T u') := by
  obtain ⟨⟨hV, hN, hway, hnum, hm, hSl, hSV⟩, eV, eN, ew, en, ⟨eS, hS⟩, hT⟩ := id hA
  refine Ct.of (own := RX5) rfl (by decide +kernel) (Nat.le_of_ble_eq_true rfl) rfl (fun Γ h => ?_)
  refine w_aload_n h (pc := 0) dX5_hush_0 rfl ?_
  refine g0_length h (pc := 1) eS wm_33 dX5_hush_1 ?_
  refine w_istore_n h (pc := 4) dX5_hush_4 (by decide) ?_
  refine w_aload_n h (pc := 5) dX5_hush_5 rfl ?_
  refine w_iconst h (pc := 6) dX5_hush_6 ?_
  refine p0_length h (pc := 7) wm_33 dX5_hush_7 ?_
  refine w_iload_n h (pc := 10) dX5_hush_10 rfl ?_
  exact w_iret h (pc := 11) (ty := .int) rfl rfl dX5_hush_11 (Nat.le_of_ble_eq_true rfl) (Nat.le_of_ble_eq_true rfl) ⟨rfl, Fr.S (by simp), ⟨hV, hN, hway, hnum, hm, by simp, by simp⟩, eV, eN, ew, en, ⟨rfl, fun j w hw => by simp at hw⟩, hT.of (Fr.S (ls := [0]) (gs := []) (by simp)) (by simp [tS]) (by simp)⟩

set_option maxHeartbeats 4000000 in
set_option maxRecDepth 100000 in
theorem mX5_learn (l : Launch) (D : va_G) (κ a : Nat → Nat) (ε : Nat) (V N way num m : Nat) (S : List Nat) (T : Nat → List (Nat × Nat)) (u : US) (hA : AB V N way num m S T u) (c : Nat) (hc : 0 < c ∧ c ≤ 4) (hm9 : m ≤ 140) (hS6 : S.length ≤ 6) (hV1 : 1 ≤ V) : Ct (W0 κ a) l D κ ε yX5_learn cX5_learn 2 (some .int) 4 109 0 0 u [.ref (a 0), .int (iI (c : Int))] (fun v u' => Fr tS tG u u' ∧ ∃ T1, AB V N way num (m + 28) S T1 u' ∧ (∀ i, i < 4 → T1 i = adT V S T c N 0 i) ∧ v = some (.int (iI (sm (fun i => (T1 i).length) N : Int)))) := by
  obtain ⟨⟨hV, hN, hway, hnum, hm, hSl, hSV⟩, eV, eN, ew, en, ⟨eS, hS⟩, hT⟩ := id hA
  refine Ct.of (own := RX5) rfl (by decide +kernel) (Nat.le_of_ble_eq_true rfl) rfl (fun Γ h => ?_)
  refine w_iload_n h (pc := 0) dX5_learn_0 rfl ?_
  refine w_iconst h (pc := 1) dX5_learn_1 ?_
  refine w_icmp_lt h (pc := 2) (tgt := 11) dX5_learn_2 (by decide) (by omega) (by omega) (fun c2 => by exfalso; omega) (fun c2 => ?_)
  refine w_iload_n h (pc := 5) dX5_learn_5 rfl ?_
  refine w_bipush h (pc := 6) dX5_learn_6 (by decide) ?_
  refine w_icmp_le h (pc := 8) (tgt := 21) dX5_learn_8 (by decide) (by omega) (by omega) (fun c8 => ?_) (fun c8 => by exfalso; omega)
  refine w_aload_n h (pc := 21) dX5_learn_21 rfl ?_
  refine g0_ledger h (pc := 22) wm_16 dX5_learn_22 ?_
  refine g1_words h (pc := 25) eV wm_113 dX5_learn_25 ?_
  refine w_if_ne h (pc := 28) (tgt := 41) dX5_learn_28 (by decide) (by omega) (fun c28 => ?_) (fun c28 => by exfalso; omega)
  refine w_aload_n h (pc := 41) dX5_learn_41 rfl ?_
  refine w_iload_n h (pc := 42) dX5_learn_42 rfl ?_
  refine w_callV1 h (pc := 43) (mX5_addSentence l D κ a ε V N way num m S T u hA c hc (by omega) hS6) 0 rfl rfl (gdV wm_166 wm_167 wm_168 wm_2 wm_169) (by decide +kernel) ⟨(Nat.le_of_ble_eq_true rfl), (Nat.le_of_ble_eq_true rfl)⟩ ⟨(Nat.le_of_ble_eq_true rfl), (Nat.le_of_ble_eq_true rfl)⟩ (fun _ _ _ => ⟨rfl, rfl⟩) (Nat.le_of_ble_eq_true rfl) dX5_learn_43 (fun v1 u1 hp1 => ?_)
  obtain ⟨rfl, hF1, T1, hA1, hs1⟩ := hp1
  have hT1 := hA1.2.2.2.2.2.2
  have eN1 := hA1.2.2.1
  have hsum : sm (fun i => (T1 i).length) N ≤ 4 * (m + 28) := Nat.le_trans (sm_bound N (B := m + 28) (fun i hi => (hT1 i (by omega)).2.2.2.1)) (Nat.mul_le_mul_right _ hN.2)
  simp only [Option.toList_none, List.nil_append]
  refine w_aload_n h (pc := 46) dX5_learn_46 rfl ?_
  refine g0_ledger h (pc := 47) wm_16 dX5_learn_47 ?_
  refine w_callV0 h (pc := 50) (mX0_sizeInAll l D κ a ε V (m + 28) u1 T1 hT1 N hN.2 eN1 (by omega)) 1 rfl rfl (gdV wm_200 wm_201 wm_202 wm_15 wm_203) (by decide +kernel) ⟨(Nat.le_of_ble_eq_true rfl), (Nat.le_of_ble_eq_true rfl)⟩ ⟨(Nat.le_of_ble_eq_true rfl), (Nat.le_of_ble_eq_true rfl)⟩ (fun _ _ _ => ⟨rfl, rfl⟩) (Nat.le_of_ble_eq_true rfl) dX5_learn_50 (fun v2 u2 hp2 => ?_)
  obtain ⟨rfl, e2⟩ := hp2
  obtain rfl := e2.symm
  simp only [Option.toList_some, List.cons_append, List.nil_append]
  refine w_sipush h (pc := 53) dX5_learn_53 (by decide) ?_
  refine w_icmp_le h (pc := 56) (tgt := 75) dX5_learn_56 (by decide) (by omega) (by omega) (fun c56 => ?_) (fun c56 => by exfalso; omega)
  refine w_aload_n h (pc := 75) dX5_learn_75 rfl ?_
  refine g0_ledger h (pc := 76) wm_16 dX5_learn_76 ?_
  refine w_callV0 h (pc := 79) (mX0_sizeInAll l D κ a ε V (m + 28) u1 T1 hT1 N hN.2 eN1 (by omega)) 1 rfl rfl (gdV wm_200 wm_201 wm_202 wm_15 wm_203) (by decide +kernel) ⟨(Nat.le_of_ble_eq_true rfl), (Nat.le_of_ble_eq_true rfl)⟩ ⟨(Nat.le_of_ble_eq_true rfl), (Nat.le_of_ble_eq_true rfl)⟩ (fun _ _ _ => ⟨rfl, rfl⟩) (Nat.le_of_ble_eq_true rfl) dX5_learn_79 (fun v3 u3 hp3 => ?_)
  obtain ⟨rfl, e3⟩ := hp3
  obtain rfl := e3.symm
  simp only [Option.toList_some, List.cons_append, List.nil_append]
  exact w_iret h (pc := 82) (ty := .int) rfl rfl dX5_learn_82 (Nat.le_of_ble_eq_true rfl) (Nat.le_of_ble_eq_true rfl) ⟨hF1, T1, hA1, hs1, rfl⟩

set_option maxHeartbeats 4000000 in
set_option maxRecDepth 100000 in
theorem mX5_unlearn (l : Launch) (D : va_G) (κ a : Nat → Nat) (ε : Nat) (V N way num m : Nat) (S : List Nat) (T : Nat → List (Nat × Nat)) (u : US) (hA : AB V N way num m S T u) (hcan : ∀ n, 1 ≤ n → n ≤ N → ∀ p : Nat, p ≤ S.length → oc (ky V S (p : Int) n) (kys V S n (S.length + 1)) ≤ gt (T (n - 1)) (ky V S (p : Int) n)) : Ct (W0 κ a) l D κ ε yX5_unlearn cX5_unlearn 1 (some .int) 6 154 0 0 u [.ref (a 0)] (fun v u' => (∃ g : Nat, v = some (.int (iI (g : Int))) ∧ g ≤ 52) ∧ Fr tS tG u u' ∧ ∃ T1, AB V N way num m S T1 u' ∧ ∀ i, i < 4 → T1 i = lwT V S T 1 N 0 i) := by
  obtain ⟨⟨hV, hN, hway, hnum, hm, hSl, hSV⟩, eV, eN, ew, en, ⟨eS, hS⟩, hT⟩ := id hA
  refine Ct.of (own := RX5) rfl (by decide +kernel) (Nat.le_of_ble_eq_true rfl) rfl (fun Γ h => ?_)
  refine w_aload_n h (pc := 0) dX5_unlearn_0 rfl ?_
  refine w_callV0 h (pc := 1) (mX5_canTakeSentence l D κ a ε V N way num m S T u hA hcan) 0 rfl rfl (gdV wm_390 wm_391 wm_392 wm_2 wm_393) (by decide +kernel) ⟨(Nat.le_of_ble_eq_true rfl), (Nat.le_of_ble_eq_true rfl)⟩ ⟨(Nat.le_of_ble_eq_true rfl), (Nat.le_of_ble_eq_true rfl)⟩ (fun _ _ _ => ⟨rfl, rfl⟩) (Nat.le_of_ble_eq_true rfl) dX5_unlearn_1 (fun v1 u1 hp1 => ?_)
  obtain ⟨rfl, e1⟩ := hp1
  obtain rfl := e1.symm
  simp only [Option.toList_some, List.cons_append, List.nil_append]
  refine w_if_ne h (pc := 4) (tgt := 17) dX5_unlearn_4 (by decide) (by omega) (fun c4 => ?_) (fun c4 => by exfalso; omega)
  refine w_aload_n h (pc := 17) dX5_unlearn_17 rfl ?_
  refine w_iconst h (pc := 18) dX5_unlearn_18 ?_
  refine w_callV1 h (pc := 19) (mX5_takeSentence l D κ a ε V N way num m S T u hA 1 (by omega)) 0 rfl rfl (gdV wm_204 wm_205 wm_206 wm_2 wm_207) (by decide +kernel) ⟨(Nat.le_of_ble_eq_true rfl), (Nat.le_of_ble_eq_true rfl)⟩ ⟨(Nat.le_of_ble_eq_true rfl), (Nat.le_of_ble_eq_true rfl)⟩ (fun _ _ _ => ⟨rfl, rfl⟩) (Nat.le_of_ble_eq_true rfl) dX5_unlearn_19 (fun v2 u2 hp2 => ?_)
  obtain ⟨⟨g, rfl, hg⟩, hF2, hx2⟩ := hp2
  simp only [Option.toList_some, List.cons_append, List.nil_append]
  exact w_iret h (pc := 22) (ty := .int) rfl rfl dX5_unlearn_22 (Nat.le_of_ble_eq_true rfl) (Nat.le_of_ble_eq_true rfl) ⟨⟨g, rfl, hg⟩, hF2, hx2⟩

set_option maxHeartbeats 4000000 in
set_option maxRecDepth 100000 in
theorem mX5_length (l : Launch) (D : va_G) (κ a : Nat → Nat) (ε : Nat) (V N way num m : Nat) (S : List Nat) (T : Nat → List (Nat × Nat)) (u : US) (hA : AB V N way num m S T u) : Ct (W0 κ a) l D κ ε yX5_length cX5_length 1 (some .int) 0 0 0 0 u [.ref (a 0)] (fun v u' => v = some (.int (iI (S.length : Int))) ∧ u' = u) := by
  obtain ⟨⟨hV, hN, hway, hnum, hm, hSl, hSV⟩, eV, eN, ew, en, ⟨eS, hS⟩, hT⟩ := id hA
  refine Ct.of (own := RX5) rfl (by decide +kernel) (Nat.le_of_ble_eq_true rfl) rfl (fun Γ h => ?_)
  refine w_aload_n h (pc := 0) dX5_length_0 rfl ?_
  refine g0_length h (pc := 1) eS wm_33 dX5_length_1 ?_
  exact w_iret h (pc := 4) (ty := .int) rfl rfl dX5_length_4 (Nat.le_of_ble_eq_true rfl) (Nat.le_of_ble_eq_true rfl) ⟨rfl, rfl⟩

set_option maxHeartbeats 4000000 in
set_option maxRecDepth 100000 in
theorem mX5_wordAt (l : Launch) (D : va_G) (κ a : Nat → Nat) (ε : Nat) (V N way num m : Nat) (S : List Nat) (T : Nat → List (Nat × Nat)) (u : US) (hA : AB V N way num m S T u) (j w : Nat) (hj : S[j]? = some w) : Ct (W0 κ a) l D κ ε yX5_wordAt cX5_wordAt 2 (some .int) 0 0 0 0 u [.ref (a 0), .int (iI (j : Int))] (fun v u' => v = some (.int (iI (w : Int))) ∧ u' = u) := by
  obtain ⟨⟨hV, hN, hway, hnum, hm, hSl, hSV⟩, eV, eN, ew, en, ⟨eS, hS⟩, hT⟩ := id hA
  have hj9 := (List.getElem?_eq_some_iff.mp hj).1
  refine Ct.of (own := RX5) rfl (by decide +kernel) (Nat.le_of_ble_eq_true rfl) rfl (fun Γ h => ?_)
  refine w_iload_n h (pc := 0) dX5_wordAt_0 rfl ?_
  refine w_if_lt h (pc := 1) (tgt := 12) dX5_wordAt_1 (by decide) (by omega) (fun c1 => by exfalso; omega) (fun c1 => ?_)
  refine w_iload_n h (pc := 4) dX5_wordAt_4 rfl ?_
  refine w_aload_n h (pc := 5) dX5_wordAt_5 rfl ?_
  refine g0_length h (pc := 6) eS wm_33 dX5_wordAt_6 ?_
  refine w_icmp_lt h (pc := 9) (tgt := 22) dX5_wordAt_9 (by decide) (by omega) (by omega) (fun c9 => ?_) (fun c9 => by exfalso; omega)
  refine w_aload_n h (pc := 22) dX5_wordAt_22 rfl ?_
  refine g0_sentence h (pc := 23) wm_32 dX5_wordAt_23 ?_
  refine w_iload_n h (pc := 26) dX5_wordAt_26 rfl ?_
  refine ld_sentence h (pc := 27) (by omega) (hS j w hj) dX5_wordAt_27 ?_
  exact w_iret h (pc := 28) (ty := .int) rfl rfl dX5_wordAt_28 (Nat.le_of_ble_eq_true rfl) (Nat.le_of_ble_eq_true rfl) ⟨rfl, rfl⟩

set_option maxHeartbeats 4000000 in
set_option maxRecDepth 100000 in
theorem mX5_entries (l : Launch) (D : va_G) (κ a : Nat → Nat) (ε : Nat) (V N way num m : Nat) (S : List Nat) (T : Nat → List (Nat × Nat)) (u : US) (hA : AB V N way num m S T u) (n : Nat) (hn : 1 ≤ n ∧ n ≤ N) : Ct (W0 κ a) l D κ ε yX5_entries cX5_entries 2 (some .int) 2 42 0 0 u [.ref (a 0), .int (iI (n : Int))] (fun v u' => v = some (.int (iI ((T (n - 1)).length : Int))) ∧ u' = u) := by
  obtain ⟨⟨hV, hN, hway, hnum, hm, hSl, hSV⟩, eV, eN, ew, en, ⟨eS, hS⟩, hT⟩ := id hA
  refine Ct.of (own := RX5) rfl (by decide +kernel) (Nat.le_of_ble_eq_true rfl) rfl (fun Γ h => ?_)
  refine w_aload_n h (pc := 0) dX5_entries_0 rfl ?_
  refine w_iload_n h (pc := 1) dX5_entries_1 rfl ?_
  refine w_callV1 h (pc := 2) (mX5_isOrder l D κ a ε V N way num m S T u hA n hn) 0 rfl rfl (gdV wm_460 wm_461 wm_462 wm_2 wm_463) (by decide +kernel) ⟨(Nat.le_of_ble_eq_true rfl), (Nat.le_of_ble_eq_true rfl)⟩ ⟨(Nat.le_of_ble_eq_true rfl), (Nat.le_of_ble_eq_true rfl)⟩ (fun _ _ _ => ⟨rfl, rfl⟩) (Nat.le_of_ble_eq_true rfl) dX5_entries_2 (fun v1 u1 hp1 => ?_)
  obtain ⟨rfl, e1⟩ := hp1
  obtain rfl := e1.symm
  simp only [Option.toList_some, List.cons_append, List.nil_append]
  refine w_if_ne h (pc := 5) (tgt := 18) dX5_entries_5 (by decide) (by omega) (fun c5 => ?_) (fun c5 => by exfalso; omega)
  refine w_aload_n h (pc := 18) dX5_entries_18 rfl ?_
  refine g0_ledger h (pc := 19) wm_16 dX5_entries_19 ?_
  refine w_iload_n h (pc := 22) dX5_entries_22 rfl ?_
  refine w_callV1 h (pc := 23) (mX0_countsOf l D κ a ε u n (by omega)) 1 rfl rfl (gdV wm_269 wm_120 wm_121 wm_15 wm_122) (by decide +kernel) ⟨(Nat.le_of_ble_eq_true rfl), (Nat.le_of_ble_eq_true rfl)⟩ ⟨(Nat.le_of_ble_eq_true rfl), (Nat.le_of_ble_eq_true rfl)⟩ (fun _ _ _ => ⟨rfl, rfl⟩) (Nat.le_of_ble_eq_true rfl) dX5_entries_23 (fun v2 u2 hp2 => ?_)
  obtain ⟨rfl, e2⟩ := hp2
  obtain rfl := e2.symm
  simp only [Option.toList_some, List.cons_append, List.nil_append]
  refine gT_size h (pc := 26) (by omega) (hT (n - 1) (by omega)).1.1 wm_266 dX5_entries_26 ?_
  exact w_iret h (pc := 29) (ty := .int) rfl rfl dX5_entries_29 (Nat.le_of_ble_eq_true rfl) (Nat.le_of_ble_eq_true rfl) ⟨rfl, rfl⟩

set_option maxHeartbeats 4000000 in
set_option maxRecDepth 100000 in
theorem mX5_ofContext (l : Launch) (D : va_G) (κ a : Nat → Nat) (ε : Nat) (V N way num m : Nat) (S : List Nat) (T : Nat → List (Nat × Nat)) (u : US) (hA : AB V N way num m S T u) (n : Nat) (hn : 1 ≤ n ∧ n ≤ N) : Ct (W0 κ a) l D κ ε yX5_ofContext cX5_ofContext 3 (some .int) 3 70 0 0 u [.ref (a 0), .int (iI (n : Int)), .int (iI 0)] (fun v u' => v = some (.int (iI (rfS (T (n - 1)) (ky V S ((S.length : Int) - 1) (n - 1)) V : Int))) ∧ Fr [8, 9] [10] u u') := by
  obtain ⟨⟨hV, hN, hway, hnum, hm, hSl, hSV⟩, eV, eN, ew, en, ⟨eS, hS⟩, hT⟩ := id hA
  refine Ct.of (own := RX5) rfl (by decide +kernel) (Nat.le_of_ble_eq_true rfl) rfl (fun Γ h => ?_)
  refine w_aload_n h (pc := 0) dX5_ofContext_0 rfl ?_
  refine w_iload_n h (pc := 1) dX5_ofContext_1 rfl ?_
  refine w_callV1 h (pc := 2) (mX5_isOrder l D κ a ε V N way num m S T u hA n hn) 0 rfl rfl (gdV wm_460 wm_461 wm_462 wm_2 wm_463) (by decide +kernel) ⟨(Nat.le_of_ble_eq_true rfl), (Nat.le_of_ble_eq_true rfl)⟩ ⟨(Nat.le_of_ble_eq_true rfl), (Nat.le_of_ble_eq_true rfl)⟩ (fun _ _ _ => ⟨rfl, rfl⟩) (Nat.le_of_ble_eq_true rfl) dX5_ofContext_2 (fun v1 u1 hp1 => ?_)
  obtain ⟨rfl, e1⟩ := hp1
  obtain rfl := e1.symm
  simp only [Option.toList_some, List.cons_append, List.nil_append]
  refine w_if_eq h (pc := 5) (tgt := 17) dX5_ofContext_5 (by decide) (by omega) (fun c5 => by exfalso; omega) (fun c5 => ?_)
  refine w_iload_n h (pc := 8) dX5_ofContext_8 rfl ?_
  refine w_if_lt h (pc := 9) (tgt := 17) dX5_ofContext_9 (by decide) (by omega) (fun c9 => by exfalso; omega) (fun c9 => ?_)
  refine w_iload_n h (pc := 12) dX5_ofContext_12 rfl ?_
  refine w_iconst h (pc := 13) dX5_ofContext_13 ?_
  refine w_icmp_le h (pc := 14) (tgt := 27) dX5_ofContext_14 (by decide) (by omega) (by omega) (fun c14 => ?_) (fun c14 => by exfalso; omega)
  refine w_aload_n h (pc := 27) dX5_ofContext_27 rfl ?_
  refine w_iload_n h (pc := 28) dX5_ofContext_28 rfl ?_
  refine w_iload_n h (pc := 29) dX5_ofContext_29 rfl ?_
  refine w_callV2 h (pc := 30) (mX5_totalBehind0 l D κ a ε V N way num m S T u hA n hn) 0 rfl rfl (gdV wm_275 wm_276 wm_277 wm_2 wm_278) (by decide +kernel) ⟨(Nat.le_of_ble_eq_true rfl), (Nat.le_of_ble_eq_true rfl)⟩ ⟨(Nat.le_of_ble_eq_true rfl), (Nat.le_of_ble_eq_true rfl)⟩ (fun _ _ _ => ⟨rfl, rfl⟩) (Nat.le_of_ble_eq_true rfl) dX5_ofContext_30 (fun v2 u2 hp2 => ?_)
  obtain ⟨rfl, hF2⟩ := hp2
  simp only [Option.toList_some, List.cons_append, List.nil_append]
  exact w_iret h (pc := 33) (ty := .int) rfl rfl dX5_ofContext_33 (Nat.le_of_ble_eq_true rfl) (Nat.le_of_ble_eq_true rfl) ⟨rfl, hF2⟩

set_option maxHeartbeats 4000000 in
set_option maxRecDepth 100000 in
theorem mX5_prune (l : Launch) (D : va_G) (κ a : Nat → Nat) (ε : Nat) (V N way num m : Nat) (S : List Nat) (T : Nat → List (Nat × Nat)) (u : US) (hA : AB V N way num m S T u) (n : Nat) (hn : 2 ≤ n ∧ n ≤ N) (lst dm : Nat) (hl9 : 1 ≤ lst ∧ lst ≤ 1000) (hdm : ∀ b ∈ T (n - 1), (b.2 < lst ∧ dm = 1) ∨ (lst ≤ b.2 ∧ dm = 0)) (hd01 : dm = 0 ∨ dm = 1) : Ct (W0 κ a) l D κ ε yX5_prune cX5_prune 5 (some .int) 6 153 0 0 u [.ref (a 0), .int (iI (n : Int)), .int (iI (lst : Int))] (fun v u' => v = some (.int (iI ((dm * (T (n - 1)).length : Nat) : Int))) ∧ Fr tS (5 :: tG) u u' ∧ ∃ T1, AB V N way num m S T1 u' ∧ (dm = 0 → ∀ i, i < 4 → T1 i = T i) ∧ (dm = 1 → T1 (n - 1) = [])) := by
  obtain ⟨⟨hV, hN, hway, hnum, hm, hSl, hSV⟩, eV, eN, ew, en, ⟨eS, hS⟩, hT⟩ := id hA
  have hT0 := hT (n - 1) (by omega)
  have hlen := hT0.2.2.2.1
  refine Ct.of (own := RX5) rfl (by decide +kernel) (Nat.le_of_ble_eq_true rfl) rfl (fun Γ h => ?_)
  refine w_iload_n h (pc := 0) dX5_prune_0 rfl ?_
  refine w_iconst h (pc := 1) dX5_prune_1 ?_
  refine w_icmp_lt h (pc := 2) (tgt := 28) dX5_prune_2 (by decide) (by omega) (by omega) (fun c2 => by exfalso; omega) (fun c2 => ?_)
  refine w_iload_n h (pc := 5) dX5_prune_5 rfl ?_
  refine w_aload_n h (pc := 6) dX5_prune_6 rfl ?_
  refine g0_ledger h (pc := 7) wm_16 dX5_prune_7 ?_
  refine g1_order h (pc := 10) eN wm_140 dX5_prune_10 ?_
  refine w_icmp_gt h (pc := 13) (tgt := 28) dX5_prune_13 (by decide) (by omega) (by omega) (fun c13 => by exfalso; omega) (fun c13 => ?_)
  refine w_iload_n h (pc := 16) dX5_prune_16 rfl ?_
  refine w_iconst h (pc := 17) dX5_prune_17 ?_
  refine w_icmp_lt h (pc := 18) (tgt := 28) dX5_prune_18 (by decide) (by omega) (by omega) (fun c18 => by exfalso; omega) (fun c18 => ?_)
  refine w_iload_n h (pc := 21) dX5_prune_21 rfl ?_
  refine w_sipush h (pc := 22) dX5_prune_22 (by decide) ?_
  refine w_icmp_le h (pc := 25) (tgt := 38) dX5_prune_25 (by decide) (by omega) (by omega) (fun c25 => ?_) (fun c25 => by exfalso; omega)
  refine w_aload_n h (pc := 38) dX5_prune_38 rfl ?_
  refine g0_ledger h (pc := 39) wm_16 dX5_prune_39 ?_
  refine w_iload_n h (pc := 42) dX5_prune_42 rfl ?_
  refine w_callV1 h (pc := 43) (mX0_countsOf l D κ a ε u n (by omega)) 1 rfl rfl (gdV wm_269 wm_120 wm_121 wm_15 wm_122) (by decide +kernel) ⟨(Nat.le_of_ble_eq_true rfl), (Nat.le_of_ble_eq_true rfl)⟩ ⟨(Nat.le_of_ble_eq_true rfl), (Nat.le_of_ble_eq_true rfl)⟩ (fun _ _ _ => ⟨rfl, rfl⟩) (Nat.le_of_ble_eq_true rfl) dX5_prune_43 (fun v1 u1 hp1 => ?_)
  obtain ⟨rfl, e1⟩ := hp1
  obtain rfl := e1.symm
  simp only [Option.toList_some, List.cons_append, List.nil_append]
  refine w_astore_n h (pc := 46) dX5_prune_46 (by decide) ?_
  refine w_iconst h (pc := 47) dX5_prune_47 ?_
  refine w_istore h (pc := 48) dX5_prune_48 (by decide) ?_
  have lp50 : ∀ (n9 e : Nat) (w : US), (T (n - 1)).length < e + n9 → e ≤ (T (n - 1)).length → Fr [] [5] u w → (∀ x, x < e → w.2 5 x = (dm : Int)) → WW Γ 5 w 50 [(0, .ref (a 0)), (1, .int (iI (n : Int))), (2, .int (iI (lst : Int))), (3, .ref (a (30 + 3 * (n - 1)))), (4, .int (iI (e : Int)))] [] := by
    intro n9
    induction n9 with
    | zero => intro e w hn9 he hF hd; exfalso; omega
    | succ n9 ih =>
      intro e w hn9 he hF hd
      have hTw : TR w (n - 1) (T (n - 1)) := hT0.1.of (by omega) hF (by simp) (by simp [tG])
      refine w_iload h (pc := 50) dX5_prune_50 rfl ?_
      refine w_aload_n h (pc := 52) dX5_prune_52 rfl ?_
      refine gT_size h (pc := 53) (by omega) hTw.1 wm_266 dX5_prune_53 ?_
      refine w_icmp_ge h (pc := 56) (tgt := 88) dX5_prune_56 (by decide) (by omega) (by omega) (fun c56 => ?_) (fun c56 => ?_)
      · have hAw := hA.of hF (by simp) (by simp [tG]) (by simp) (by simp)
        refine w_aload_n h (pc := 88) dX5_prune_88 rfl ?_
        refine w_iload_n h (pc := 89) dX5_prune_89 rfl ?_
        refine w_callV1 h (pc := 90) (mX5_dropDoomed l D κ a ε V N way num m S T w hAw n hn dm hd01 (fun x hx => hd x (by omega))) 0 rfl rfl (gdV wm_468 wm_469 wm_470 wm_2 wm_471) (by decide +kernel) ⟨(Nat.le_of_ble_eq_true rfl), (Nat.le_of_ble_eq_true rfl)⟩ ⟨(Nat.le_of_ble_eq_true rfl), (Nat.le_of_ble_eq_true rfl)⟩ (fun _ _ _ => ⟨rfl, rfl⟩) (Nat.le_of_ble_eq_true rfl) dX5_prune_90 (fun v2 u2 hp2 => ?_)
        obtain ⟨rfl, hF2, hx2⟩ := hp2
        simp only [Option.toList_some, List.cons_append, List.nil_append]
        exact w_iret h (pc := 93) (ty := .int) rfl rfl dX5_prune_93 (Nat.le_of_ble_eq_true rfl) (Nat.le_of_ble_eq_true rfl) ⟨rfl, (hF.up (by intro k hk; simp_all) (by intro k hk; simp_all)).tr (hF2.up (by intro k hk; simp_all) (by intro k hk; simp_all)), hx2⟩
      · obtain ⟨b, hb⟩ := getN (t := T (n - 1)) (j := e) (by omega)
        have hcv := (hTw.2 _ b hb).2
        have hbb := hT0.2.2.2.2 b (List.mem_of_getElem? hb)
        have hdb := hdm b (List.mem_of_getElem? hb)
        refine w_aload_n h (pc := 59) dX5_prune_59 rfl ?_
        refine g0_doomed h (pc := 60) wm_30 dX5_prune_60 ?_
        refine w_iload h (pc := 63) dX5_prune_63 rfl ?_
        refine w_aload_n h (pc := 65) dX5_prune_65 rfl ?_
        refine gT_counts h (pc := 66) (by omega) wm_268 dX5_prune_66 ?_
        refine w_iload h (pc := 69) dX5_prune_69 rfl ?_
        refine ld_counts h (pc := 71) (by omega) (by omega) hcv dX5_prune_71 ?_
        refine w_iload_n h (pc := 72) dX5_prune_72 rfl ?_
        refine w_icmp_ge h (pc := 73) (tgt := 80) dX5_prune_73 (by decide) (by omega) (by omega) (fun c73 => ?_) (fun c73 => ?_)
        · refine w_iconst h (pc := 80) dX5_prune_80 ?_
          refine st_doomed h (pc := 81) (by omega) (by omega) dX5_prune_81 ?_
          refine w_iinc h (pc := 82) dX5_prune_82 rfl (by decide) ?_
          refine w_goto h (pc := 85) (tgt := 50) dX5_prune_85 (by decide) ?_
          refine WW.sub (by rfl) (ih (e + 1) _ (by omega) (by omega) (hF.tr (Fr.A (by simp))) (fun x hx => ?_))
          rw [uA_at]
          unfold upI
          rw [Int.toNat_natCast]
          by_cases q : x = e
          · rw [if_pos q]; omega
          · rw [if_neg q]; exact hd x (by omega)
        · refine w_iconst h (pc := 76) dX5_prune_76 ?_
          refine w_goto h (pc := 77) (tgt := 81) dX5_prune_77 (by decide) ?_
          refine st_doomed h (pc := 81) (by omega) (by omega) dX5_prune_81 ?_
          refine w_iinc h (pc := 82) dX5_prune_82 rfl (by decide) ?_
          refine w_goto h (pc := 85) (tgt := 50) dX5_prune_85 (by decide) ?_
          refine WW.sub (by rfl) (ih (e + 1) _ (by omega) (by omega) (hF.tr (Fr.A (by simp))) (fun x hx => ?_))
          rw [uA_at]
          unfold upI
          rw [Int.toNat_natCast]
          by_cases q : x = e
          · rw [if_pos q]; omega
          · rw [if_neg q]; exact hd x (by omega)
  exact WW.sub (by rfl) (lp50 ((T (n - 1)).length + 1) 0 u (by omega) (by omega) Fr.rfl (fun x hx => absurd hx (Nat.not_lt_zero x)))

set_option maxHeartbeats 4000000 in
set_option maxRecDepth 100000 in
theorem mX5_setWay (l : Launch) (D : va_G) (κ a : Nat → Nat) (ε : Nat) (V N way num m : Nat) (S : List Nat) (T : Nat → List (Nat × Nat)) (u : US) (hA : AB V N way num m S T u) (w n : Nat) (hw : w ≤ 4) (hn : 1 ≤ n ∧ n ≤ 1000) : Ct (W0 κ a) l D κ ε yX5_setWay cX5_setWay 4 (some .int) 1 21 0 0 u [.ref (a 0), .int (iI (w : Int)), .int (iI (n : Int))] (fun v u' => v = some (.int (iI (way : Int))) ∧ Fr [6, 7] [] u u' ∧ AB V N w n m S T u') := by
  obtain ⟨⟨hV, hN, hway, hnum, hm, hSl, hSV⟩, eV, eN, ew, en, ⟨eS, hS⟩, hT⟩ := id hA
  refine Ct.of (own := RX5) rfl (by decide +kernel) (Nat.le_of_ble_eq_true rfl) rfl (fun Γ h => ?_)
  refine w_iload_n h (pc := 0) dX5_setWay_0 rfl ?_
  refine w_iload_n h (pc := 1) dX5_setWay_1 rfl ?_
  refine w_callS2 h (pc := 2) (mX5_isWay l D κ a ε u w n hw hn) (gdS wm_250 wm_251 wm_2 wm_252) (by decide +kernel) ⟨(Nat.le_of_ble_eq_true rfl), (Nat.le_of_ble_eq_true rfl)⟩ ⟨(Nat.le_of_ble_eq_true rfl), (Nat.le_of_ble_eq_true rfl)⟩ (fun _ _ _ => ⟨rfl, rfl⟩) (Nat.le_of_ble_eq_true rfl) dX5_setWay_2 (fun v1 u1 hp1 => ?_)
  obtain ⟨rfl, e1⟩ := hp1
  obtain rfl := e1.symm
  simp only [Option.toList_some, List.cons_append, List.nil_append]
  refine w_if_ne h (pc := 5) (tgt := 18) dX5_setWay_5 (by decide) (by omega) (fun c5 => ?_) (fun c5 => by exfalso; omega)
  refine w_aload_n h (pc := 18) dX5_setWay_18 rfl ?_
  refine g0_reckoner h (pc := 19) wm_20 dX5_setWay_19 ?_
  refine g2_way h (pc := 22) ew wm_248 dX5_setWay_22 ?_
  refine w_istore_n h (pc := 25) dX5_setWay_25 (by decide) ?_
  refine w_aload_n h (pc := 26) dX5_setWay_26 rfl ?_
  refine g0_reckoner h (pc := 27) wm_20 dX5_setWay_27 ?_
  refine w_iload_n h (pc := 30) dX5_setWay_30 rfl ?_
  refine p2_way h (pc := 31) wm_248 dX5_setWay_31 ?_
  refine w_aload_n h (pc := 34) dX5_setWay_34 rfl ?_
  refine g0_reckoner h (pc := 35) wm_20 dX5_setWay_35 ?_
  refine w_iload_n h (pc := 38) dX5_setWay_38 rfl ?_
  refine p2_number h (pc := 39) wm_249 dX5_setWay_39 ?_
  refine w_iload_n h (pc := 42) dX5_setWay_42 rfl ?_
  exact w_iret h (pc := 43) (ty := .int) rfl rfl dX5_setWay_43 (Nat.le_of_ble_eq_true rfl) (Nat.le_of_ble_eq_true rfl) ⟨rfl, (Fr.S (by simp)).tr (Fr.S (by simp)), ⟨hV, hN, hw, hn, hm, hSl, hSV⟩, eV, eN, rfl, rfl, ⟨eS, hS⟩, hT.of ((Fr.S (ls := [6, 7]) (gs := []) (by simp)).tr (Fr.S (by simp))) (by simp [tS]) (by simp)⟩

set_option maxHeartbeats 4000000 in
set_option maxRecDepth 100000 in
theorem mX5_chance (l : Launch) (D : va_G) (κ a : Nat → Nat) (ε : Nat) (V N way num m : Nat) (S : List Nat) (T : Nat → List (Nat × Nat)) (u : US) (hA : AB V N way num m S T u) (w : Nat) (hw : w ≤ V) : Ct (W0 κ a) l D κ ε yX5_chance cX5_chance 2 (some .int) 5 116 0 0 u [.ref (a 0), .int (iI (w : Int))] (fun v u' => v = some (.int (iI ((chz V N way num S T (S.length : Int)) w : Int))) ∧ Fr [8, 9] [9, 10] u u') := by
  obtain ⟨⟨hV, hN, hway, hnum, hm, hSl, hSV⟩, eV, eN, ew, en, ⟨eS, hS⟩, hT⟩ := id hA
  refine Ct.of (own := RX5) rfl (by decide +kernel) (Nat.le_of_ble_eq_true rfl) rfl (fun Γ h => ?_)
  refine w_iload_n h (pc := 0) dX5_chance_0 rfl ?_
  refine w_if_lt h (pc := 1) (tgt := 15) dX5_chance_1 (by decide) (by omega) (fun c1 => by exfalso; omega) (fun c1 => ?_)
  refine w_iload_n h (pc := 4) dX5_chance_4 rfl ?_
  refine w_aload_n h (pc := 5) dX5_chance_5 rfl ?_
  refine g0_ledger h (pc := 6) wm_16 dX5_chance_6 ?_
  refine g1_words h (pc := 9) eV wm_113 dX5_chance_9 ?_
  refine w_icmp_le h (pc := 12) (tgt := 25) dX5_chance_12 (by decide) (by omega) (by omega) (fun c12 => ?_) (fun c12 => by exfalso; omega)
  refine w_aload_n h (pc := 25) dX5_chance_25 rfl ?_
  refine w_callV0 h (pc := 26) (mX5_reckonBehindSentence l D κ a ε V N way num m S T u hA) 0 rfl rfl (gdV wm_298 wm_299 wm_300 wm_2 wm_301) (by decide +kernel) ⟨(Nat.le_of_ble_eq_true rfl), (Nat.le_of_ble_eq_true rfl)⟩ ⟨(Nat.le_of_ble_eq_true rfl), (Nat.le_of_ble_eq_true rfl)⟩ (fun _ _ _ => ⟨rfl, rfl⟩) (Nat.le_of_ble_eq_true rfl) dX5_chance_26 (fun v1 u1 hp1 => ?_)
  obtain ⟨rfl, hF1, hc1⟩ := hp1
  have eV1 : u1.1 4 = (V : Int) := (hF1.1 4 (by simp)).trans eV
  have hcl : ∀ x, x ≤ V → (chz V N way num S T (S.length : Int)) x ≤ 1000000 := fun x hx => chz_le hnum hN.1 _ hx
  simp only [Option.toList_none, List.nil_append]
  refine w_aload_n h (pc := 29) dX5_chance_29 rfl ?_
  refine g0_reckoner h (pc := 30) wm_20 dX5_chance_30 ?_
  refine g2_chances h (pc := 33) wm_297 dX5_chance_33 ?_
  refine w_iload_n h (pc := 36) dX5_chance_36 rfl ?_
  refine ld_chances h (pc := 37) (by omega) (hc1 w hw) dX5_chance_37 ?_
  exact w_iret h (pc := 38) (ty := .int) rfl rfl dX5_chance_38 (Nat.le_of_ble_eq_true rfl) (Nat.le_of_ble_eq_true rfl) ⟨rfl, hF1⟩

set_option maxHeartbeats 4000000 in
set_option maxRecDepth 100000 in
theorem mX5_ranked (l : Launch) (D : va_G) (κ a : Nat → Nat) (ε : Nat) (V N way num m : Nat) (S : List Nat) (T : Nat → List (Nat × Nat)) (u : US) (hA : AB V N way num m S T u) (r : Nat) (hr : r ≤ V) : Ct (W0 κ a) l D κ ε yX5_ranked cX5_ranked 2 (some .int) 5 116 0 0 u [.ref (a 0), .int (iI (r : Int))] (fun v u' => v = some (.int (iI (fw (chz V N way num S T (S.length : Int)) V r : Int))) ∧ Fr [8, 9] [9, 10] u u') := by
  obtain ⟨⟨hV, hN, hway, hnum, hm, hSl, hSV⟩, eV, eN, ew, en, ⟨eS, hS⟩, hT⟩ := id hA
  refine Ct.of (own := RX5) rfl (by decide +kernel) (Nat.le_of_ble_eq_true rfl) rfl (fun Γ h => ?_)
  refine w_iload_n h (pc := 0) dX5_ranked_0 rfl ?_
  refine w_if_lt h (pc := 1) (tgt := 15) dX5_ranked_1 (by decide) (by omega) (fun c1 => by exfalso; omega) (fun c1 => ?_)
  refine w_iload_n h (pc := 4) dX5_ranked_4 rfl ?_
  refine w_aload_n h (pc := 5) dX5_ranked_5 rfl ?_
  refine g0_ledger h (pc := 6) wm_16 dX5_ranked_6 ?_
  refine g1_words h (pc := 9) eV wm_113 dX5_ranked_9 ?_
  refine w_icmp_le h (pc := 12) (tgt := 25) dX5_ranked_12 (by decide) (by omega) (by omega) (fun c12 => ?_) (fun c12 => by exfalso; omega)
  refine w_aload_n h (pc := 25) dX5_ranked_25 rfl ?_
  refine w_callV0 h (pc := 26) (mX5_reckonBehindSentence l D κ a ε V N way num m S T u hA) 0 rfl rfl (gdV wm_298 wm_299 wm_300 wm_2 wm_301) (by decide +kernel) ⟨(Nat.le_of_ble_eq_true rfl), (Nat.le_of_ble_eq_true rfl)⟩ ⟨(Nat.le_of_ble_eq_true rfl), (Nat.le_of_ble_eq_true rfl)⟩ (fun _ _ _ => ⟨rfl, rfl⟩) (Nat.le_of_ble_eq_true rfl) dX5_ranked_26 (fun v1 u1 hp1 => ?_)
  obtain ⟨rfl, hF1, hc1⟩ := hp1
  have eV1 : u1.1 4 = (V : Int) := (hF1.1 4 (by simp)).trans eV
  have hcl : ∀ x, x ≤ V → (chz V N way num S T (S.length : Int)) x ≤ 1000000 := fun x hx => chz_le hnum hN.1 _ hx
  simp only [Option.toList_none, List.nil_append]
  refine w_aload_n h (pc := 29) dX5_ranked_29 rfl ?_
  refine g0_reckoner h (pc := 30) wm_20 dX5_ranked_30 ?_
  refine w_iload_n h (pc := 33) dX5_ranked_33 rfl ?_
  refine w_callV1 h (pc := 34) (mX1_withRank l D κ a ε V u1 hV eV1 (chz V N way num S T (S.length : Int)) (fun x hx => ⟨hc1 x hx, hcl x hx⟩) r hr) 2 rfl rfl (gdV wm_325 wm_326 wm_327 wm_19 wm_328) (by decide +kernel) ⟨(Nat.le_of_ble_eq_true rfl), (Nat.le_of_ble_eq_true rfl)⟩ ⟨(Nat.le_of_ble_eq_true rfl), (Nat.le_of_ble_eq_true rfl)⟩ (fun _ _ _ => ⟨rfl, rfl⟩) (Nat.le_of_ble_eq_true rfl) dX5_ranked_34 (fun v2 u2 hp2 => ?_)
  obtain ⟨rfl, e2⟩ := hp2
  obtain rfl := e2.symm
  simp only [Option.toList_some, List.cons_append, List.nil_append]
  exact w_iret h (pc := 37) (ty := .int) rfl rfl dX5_ranked_37 (Nat.le_of_ble_eq_true rfl) (Nat.le_of_ble_eq_true rfl) ⟨rfl, hF1⟩

set_option maxHeartbeats 4000000 in
set_option maxRecDepth 100000 in
theorem mX5_costOf (l : Launch) (D : va_G) (κ a : Nat → Nat) (ε : Nat) (u : US) (p : Nat) (hp : p ≤ 1000000) : Ct (W0 κ a) l D κ ε yX5_costOf cX5_costOf 2 (some .int) 1 23 0 0 u [.ref (a 0), .int (iI (p : Int))] (fun v u' => v = some (.int (iI (co p : Int))) ∧ u' = u) := by
  refine Ct.of (own := RX5) rfl (by decide +kernel) (Nat.le_of_ble_eq_true rfl) rfl (fun Γ h => ?_)
  refine w_iload_n h (pc := 0) dX5_costOf_0 rfl ?_
  refine w_callS1 h (pc := 1) (mX5_cost l D κ a ε u p hp) (gdS wm_341 wm_342 wm_2 wm_343) (by decide +kernel) ⟨(Nat.le_of_ble_eq_true rfl), (Nat.le_of_ble_eq_true rfl)⟩ ⟨(Nat.le_of_ble_eq_true rfl), (Nat.le_of_ble_eq_true rfl)⟩ (fun _ _ _ => ⟨rfl, rfl⟩) (Nat.le_of_ble_eq_true rfl) dX5_costOf_1 (fun v1 u1 hp1 => ?_)
  obtain ⟨rfl, e1⟩ := hp1
  obtain rfl := e1.symm
  simp only [Option.toList_some, List.cons_append, List.nil_append]
  exact w_iret h (pc := 4) (ty := .int) rfl rfl dX5_costOf_4 (Nat.le_of_ble_eq_true rfl) (Nat.le_of_ble_eq_true rfl) ⟨rfl, rfl⟩

set_option maxHeartbeats 4000000 in
set_option maxRecDepth 100000 in
theorem mX5_score (l : Launch) (D : va_G) (κ a : Nat → Nat) (ε : Nat) (V N way num m : Nat) (S : List Nat) (T : Nat → List (Nat × Nat)) (u : US) (hA : AB V N way num m S T u) : Ct (W0 κ a) l D κ ε yX5_score cX5_score 1 (some .int) 5 119 0 0 u [.ref (a 0)] (fun v u' => v = some (.int (iI (scr V N way num S T : Int))) ∧ Fr [8, 9] [9, 10] u u') := by
  obtain ⟨⟨hV, hN, hway, hnum, hm, hSl, hSV⟩, eV, eN, ew, en, ⟨eS, hS⟩, hT⟩ := id hA
  refine Ct.of (own := RX5) rfl (by decide +kernel) (Nat.le_of_ble_eq_true rfl) rfl (fun Γ h => ?_)
  refine w_aload_n h (pc := 0) dX5_score_0 rfl ?_
  refine w_callV0 h (pc := 1) (mX5_sumOfCosts l D κ a ε V N way num m S T u hA) 0 rfl rfl (gdV wm_337 wm_338 wm_339 wm_2 wm_340) (by decide +kernel) ⟨(Nat.le_of_ble_eq_true rfl), (Nat.le_of_ble_eq_true rfl)⟩ ⟨(Nat.le_of_ble_eq_true rfl), (Nat.le_of_ble_eq_true rfl)⟩ (fun _ _ _ => ⟨rfl, rfl⟩) (Nat.le_of_ble_eq_true rfl) dX5_score_1 (fun v1 u1 hp1 => ?_)
  obtain ⟨rfl, hF1⟩ := hp1
  simp only [Option.toList_some, List.cons_append, List.nil_append]
  exact w_iret h (pc := 4) (ty := .int) rfl rfl dX5_score_4 (Nat.le_of_ble_eq_true rfl) (Nat.le_of_ble_eq_true rfl) ⟨rfl, hF1⟩

set_option maxHeartbeats 4000000 in
set_option maxRecDepth 100000 in
theorem mX5_wouldDraw (l : Launch) (D : va_G) (κ a : Nat → Nat) (ε : Nat) (V N way num m : Nat) (S : List Nat) (T : Nat → List (Nat × Nat)) (u : US) (hA : AB V N way num m S T u) (hV1 : 1 ≤ V) (lk9 : Nat) (hlk : lk9 < 10000) (elk : u.1 1 = (lk9 : Int)) : Ct (W0 κ a) l D κ ε yX5_wouldDraw cX5_wouldDraw 1 (some .int) 5 116 0 0 u [.ref (a 0)] (fun v u' => Fr [8, 9] [9, 10] u u' ∧ ∃ r : Nat, v = some (.int (iI (r : Int))) ∧ r ≤ V ∧ (0 < sm (chz V N way num S T (S.length : Int)) (V + 1) → 0 < (chz V N way num S T (S.length : Int)) r)) := by
  obtain ⟨⟨hV, hN, hway, hnum, hm, hSl, hSV⟩, eV, eN, ew, en, ⟨eS, hS⟩, hT⟩ := id hA
  refine Ct.of (own := RX5) rfl (by decide +kernel) (Nat.le_of_ble_eq_true rfl) rfl (fun Γ h => ?_)
  refine w_aload_n h (pc := 0) dX5_wouldDraw_0 rfl ?_
  refine g0_ledger h (pc := 1) wm_16 dX5_wouldDraw_1 ?_
  refine g1_words h (pc := 4) eV wm_113 dX5_wouldDraw_4 ?_
  refine w_if_ne h (pc := 7) (tgt := 20) dX5_wouldDraw_7 (by decide) (by omega) (fun c7 => ?_) (fun c7 => by exfalso; omega)
  refine w_aload_n h (pc := 20) dX5_wouldDraw_20 rfl ?_
  refine w_callV0 h (pc := 21) (mX5_reckonBehindSentence l D κ a ε V N way num m S T u hA) 0 rfl rfl (gdV wm_298 wm_299 wm_300 wm_2 wm_301) (by decide +kernel) ⟨(Nat.le_of_ble_eq_true rfl), (Nat.le_of_ble_eq_true rfl)⟩ ⟨(Nat.le_of_ble_eq_true rfl), (Nat.le_of_ble_eq_true rfl)⟩ (fun _ _ _ => ⟨rfl, rfl⟩) (Nat.le_of_ble_eq_true rfl) dX5_wouldDraw_21 (fun v1 u1 hp1 => ?_)
  obtain ⟨rfl, hF1, hc1⟩ := hp1
  have eV1 : u1.1 4 = (V : Int) := (hF1.1 4 (by simp)).trans eV
  have hcl : ∀ x, x ≤ V → (chz V N way num S T (S.length : Int)) x ≤ 1000000 := fun x hx => chz_le hnum hN.1 _ hx
  have elk1 : u1.1 1 = (lk9 : Int) := (hF1.1 1 (by simp)).trans elk
  simp only [Option.toList_none, List.nil_append]
  refine w_aload_n h (pc := 24) dX5_wouldDraw_24 rfl ?_
  refine g0_reckoner h (pc := 25) wm_20 dX5_wouldDraw_25 ?_
  refine w_aload_n h (pc := 28) dX5_wouldDraw_28 rfl ?_
  refine g0_luck h (pc := 29) elk1 wm_34 dX5_wouldDraw_29 ?_
  refine w_callS1 h (pc := 32) (mX5_luckBehind l D κ a ε u1 lk9 hlk) (gdS wm_358 wm_359 wm_2 wm_360) (by decide +kernel) ⟨(Nat.le_of_ble_eq_true rfl), (Nat.le_of_ble_eq_true rfl)⟩ ⟨(Nat.le_of_ble_eq_true rfl), (Nat.le_of_ble_eq_true rfl)⟩ (fun _ _ _ => ⟨rfl, rfl⟩) (Nat.le_of_ble_eq_true rfl) dX5_wouldDraw_32 (fun v2 u2 hp2 => ?_)
  obtain ⟨rfl, e2⟩ := hp2
  obtain rfl := e2.symm
  simp only [Option.toList_some, List.cons_append, List.nil_append]
  refine w_aload_n h (pc := 35) dX5_wouldDraw_35 rfl ?_
  refine w_callV0 h (pc := 36) (mX5_allOutcomes l D κ a ε V u1 hV eV1) 0 rfl rfl (gdV wm_361 wm_362 wm_363 wm_2 wm_364) (by decide +kernel) ⟨(Nat.le_of_ble_eq_true rfl), (Nat.le_of_ble_eq_true rfl)⟩ ⟨(Nat.le_of_ble_eq_true rfl), (Nat.le_of_ble_eq_true rfl)⟩ (fun _ _ _ => ⟨rfl, rfl⟩) (Nat.le_of_ble_eq_true rfl) dX5_wouldDraw_36 (fun v3 u3 hp3 => ?_)
  obtain ⟨rfl, e3⟩ := hp3
  obtain rfl := e3.symm
  simp only [Option.toList_some, List.cons_append, List.nil_append]
  refine w_callV2 h (pc := 39) (mX1_pick l D κ a ε V u1 hV eV1 (chz V N way num S T (S.length : Int)) (fun x hx => ⟨hc1 x hx, hcl x hx⟩) ((lk9 * 4621 + 2777) % 10000) (by omega) ((2 ^ (V + 1) - 1 : Nat) : Int) (fun _ => 1) (fun w hw => ⟨bit_all hV hw, Nat.le_refl _⟩) ⟨0, by omega, rfl⟩) 2 rfl rfl (gdV wm_365 wm_366 wm_367 wm_19 wm_368) (by decide +kernel) ⟨(Nat.le_of_ble_eq_true rfl), (Nat.le_of_ble_eq_true rfl)⟩ ⟨(Nat.le_of_ble_eq_true rfl), (Nat.le_of_ble_eq_true rfl)⟩ (fun _ _ _ => ⟨rfl, rfl⟩) (Nat.le_of_ble_eq_true rfl) dX5_wouldDraw_39 (fun v4 u4 hp4 => ?_)
  obtain ⟨e4, r, rfl, hr, -, hpos⟩ := hp4
  obtain rfl := e4.symm
  rw [sm_cg (g := (chz V N way num S T (S.length : Int))) (fun i _ => Nat.one_mul _)] at hpos
  simp only [Option.toList_some, List.cons_append, List.nil_append]
  exact w_iret h (pc := 42) (ty := .int) rfl rfl dX5_wouldDraw_42 (Nat.le_of_ble_eq_true rfl) (Nat.le_of_ble_eq_true rfl) ⟨hF1, r, rfl, hr, hpos⟩

set_option maxHeartbeats 4000000 in
set_option maxRecDepth 100000 in
theorem mX5_scoreBy (l : Launch) (D : va_G) (κ a : Nat → Nat) (ε : Nat) (V N way num m : Nat) (S : List Nat) (T : Nat → List (Nat × Nat)) (u : US) (hA : AB V N way num m S T u) (w n : Nat) (hw : w ≤ 4) (hn : 1 ≤ n ∧ n ≤ 1000) : Ct (W0 κ a) l D κ ε yX5_scoreBy cX5_scoreBy 6 (some .int) 5 119 0 0 u [.ref (a 0), .int (iI (w : Int)), .int (iI (n : Int))] (fun v u' => v = some (.int (iI (scr V N w n S T : Int))) ∧ Fr [6, 7, 8, 9] [9, 10] u u' ∧ AB V N way num m S T u') := by
  obtain ⟨⟨hV, hN, hway, hnum, hm, hSl, hSV⟩, eV, eN, ew, en, ⟨eS, hS⟩, hT⟩ := id hA
  refine Ct.of (own := RX5) rfl (by decide +kernel) (Nat.le_of_ble_eq_true rfl) rfl (fun Γ h => ?_)
  refine w_iload_n h (pc := 0) dX5_scoreBy_0 rfl ?_
  refine w_iload_n h (pc := 1) dX5_scoreBy_1 rfl ?_
  refine w_callS2 h (pc := 2) (mX5_isWay l D κ a ε u w n hw hn) (gdS wm_250 wm_251 wm_2 wm_252) (by decide +kernel) ⟨(Nat.le_of_ble_eq_true rfl), (Nat.le_of_ble_eq_true rfl)⟩ ⟨(Nat.le_of_ble_eq_true rfl), (Nat.le_of_ble_eq_true rfl)⟩ (fun _ _ _ => ⟨rfl, rfl⟩) (Nat.le_of_ble_eq_true rfl) dX5_scoreBy_2 (fun v1 u1 hp1 => ?_)
  obtain ⟨rfl, e1⟩ := hp1
  obtain rfl := e1.symm
  simp only [Option.toList_some, List.cons_append, List.nil_append]
  refine w_if_ne h (pc := 5) (tgt := 18) dX5_scoreBy_5 (by decide) (by omega) (fun c5 => ?_) (fun c5 => by exfalso; omega)
  refine w_aload_n h (pc := 18) dX5_scoreBy_18 rfl ?_
  refine g0_reckoner h (pc := 19) wm_20 dX5_scoreBy_19 ?_
  refine g2_way h (pc := 22) ew wm_248 dX5_scoreBy_22 ?_
  refine w_istore_n h (pc := 25) dX5_scoreBy_25 (by decide) ?_
  refine w_aload_n h (pc := 26) dX5_scoreBy_26 rfl ?_
  refine g0_reckoner h (pc := 27) wm_20 dX5_scoreBy_27 ?_
  refine g2_number h (pc := 30) en wm_249 dX5_scoreBy_30 ?_
  refine w_istore h (pc := 33) dX5_scoreBy_33 (by decide) ?_
  refine w_aload_n h (pc := 35) dX5_scoreBy_35 rfl ?_
  refine g0_reckoner h (pc := 36) wm_20 dX5_scoreBy_36 ?_
  refine w_iload_n h (pc := 39) dX5_scoreBy_39 rfl ?_
  refine p2_way h (pc := 40) wm_248 dX5_scoreBy_40 ?_
  refine w_aload_n h (pc := 43) dX5_scoreBy_43 rfl ?_
  refine g0_reckoner h (pc := 44) wm_20 dX5_scoreBy_44 ?_
  refine w_iload_n h (pc := 47) dX5_scoreBy_47 rfl ?_
  refine p2_number h (pc := 48) wm_249 dX5_scoreBy_48 ?_
  refine w_aload_n h (pc := 51) dX5_scoreBy_51 rfl ?_
  refine w_callV0 h (pc := 52) (mX5_sumOfCosts l D κ a ε V N w n m S T (uS (uS u 6 (w : Int)) 7 (n : Int)) ⟨⟨hV, hN, hw, hn, hm, hSl, hSV⟩, eV, eN, rfl, rfl, ⟨eS, hS⟩, hT.of ((Fr.S (ls := [6, 7]) (gs := []) (by simp)).tr (Fr.S (by simp))) (by simp [tS]) (by simp)⟩) 0 rfl rfl (gdV wm_337 wm_338 wm_339 wm_2 wm_340) (by decide +kernel) ⟨(Nat.le_of_ble_eq_true rfl), (Nat.le_of_ble_eq_true rfl)⟩ ⟨(Nat.le_of_ble_eq_true rfl), (Nat.le_of_ble_eq_true rfl)⟩ (fun _ _ _ => ⟨rfl, rfl⟩) (Nat.le_of_ble_eq_true rfl) dX5_scoreBy_52 (fun v2 u2 hp2 => ?_)
  obtain ⟨rfl, hF2⟩ := hp2
  have hF9 : Fr [6, 7, 8, 9] [9, 10] u u2 := (((Fr.S (by simp)).tr (Fr.S (by simp))) : Fr [6, 7, 8, 9] [9, 10] u (uS (uS u 6 (w : Int)) 7 (n : Int))).tr (hF2.mono (by simp) (by simp))
  simp only [Option.toList_some, List.cons_append, List.nil_append]
  refine w_istore h (pc := 55) dX5_scoreBy_55 (by decide) ?_
  refine w_aload_n h (pc := 57) dX5_scoreBy_57 rfl ?_
  refine g0_reckoner h (pc := 58) wm_20 dX5_scoreBy_58 ?_
  refine w_iload_n h (pc := 61) dX5_scoreBy_61 rfl ?_
  refine p2_way h (pc := 62) wm_248 dX5_scoreBy_62 ?_
  refine w_aload_n h (pc := 65) dX5_scoreBy_65 rfl ?_
  refine g0_reckoner h (pc := 66) wm_20 dX5_scoreBy_66 ?_
  refine w_iload h (pc := 69) dX5_scoreBy_69 rfl ?_
  refine p2_number h (pc := 71) wm_249 dX5_scoreBy_71 ?_
  refine w_iload h (pc := 74) dX5_scoreBy_74 rfl ?_
  exact w_iret h (pc := 76) (ty := .int) rfl rfl dX5_scoreBy_76 (Nat.le_of_ble_eq_true rfl) (Nat.le_of_ble_eq_true rfl) ⟨rfl, (hF9.tr (Fr.S (by simp))).tr (Fr.S (by simp)), ⟨hV, hN, hway, hnum, hm, hSl, hSV⟩, (hF9.1 4 (by simp)).trans eV, (hF9.1 5 (by simp)).trans eN, rfl, rfl, ⟨(hF9.1 0 (by simp)).trans eS, fun j w hw => by rw [uS_2, uS_2, hF9.2 6 (by simp)]; exact hS j w hw⟩, hT.of ((hF9.tr (Fr.S (by simp))).tr (Fr.S (by simp))) (by simp [tS]) (by simp [tG])⟩

set_option maxHeartbeats 4000000 in
set_option maxRecDepth 100000 in
theorem mX5_scoreLearned (l : Launch) (D : va_G) (κ a : Nat → Nat) (ε : Nat) (V N way num m : Nat) (S : List Nat) (T : Nat → List (Nat × Nat)) (u : US) (hA : AB V N way num m S T u) (c : Nat) (hc : 0 < c ∧ c ≤ 4) (hm9 : m ≤ 140) (hS6 : S.length ≤ 6) (hV1 : 1 ≤ V) : Ct (W0 κ a) l D κ ε yX5_scoreLearned cX5_scoreLearned 3 (some .int) 6 154 0 0 u [.ref (a 0), .int (iI (c : Int))] (fun v u' => Fr (8 :: 9 :: tS) (9 :: 10 :: tG) u u' ∧ ∃ T1, v = some (.int (iI (scr V N way num S T1 : Int))) ∧ (∀ i, i < 4 → T1 i = adT V S T c N 0 i) ∧ ∃ T2, AB V N way num (m + 28) S T2 u' ∧ ∀ i, i < 4 → T2 i = lwT V S T1 c N 0 i) := by
  obtain ⟨⟨hV, hN, hway, hnum, hm, hSl, hSV⟩, eV, eN, ew, en, ⟨eS, hS⟩, hT⟩ := id hA
  refine Ct.of (own := RX5) rfl (by decide +kernel) (Nat.le_of_ble_eq_true rfl) rfl (fun Γ h => ?_)
  refine w_iload_n h (pc := 0) dX5_scoreLearned_0 rfl ?_
  refine w_iconst h (pc := 1) dX5_scoreLearned_1 ?_
  refine w_icmp_lt h (pc := 2) (tgt := 11) dX5_scoreLearned_2 (by decide) (by omega) (by omega) (fun c2 => by exfalso; omega) (fun c2 => ?_)
  refine w_iload_n h (pc := 5) dX5_scoreLearned_5 rfl ?_
  refine w_bipush h (pc := 6) dX5_scoreLearned_6 (by decide) ?_
  refine w_icmp_le h (pc := 8) (tgt := 21) dX5_scoreLearned_8 (by decide) (by omega) (by omega) (fun c8 => ?_) (fun c8 => by exfalso; omega)
  refine w_aload_n h (pc := 21) dX5_scoreLearned_21 rfl ?_
  refine g0_ledger h (pc := 22) wm_16 dX5_scoreLearned_22 ?_
  refine g1_words h (pc := 25) eV wm_113 dX5_scoreLearned_25 ?_
  refine w_if_ne h (pc := 28) (tgt := 41) dX5_scoreLearned_28 (by decide) (by omega) (fun c28 => ?_) (fun c28 => by exfalso; omega)
  refine w_aload_n h (pc := 41) dX5_scoreLearned_41 rfl ?_
  refine w_iload_n h (pc := 42) dX5_scoreLearned_42 rfl ?_
  refine w_callV1 h (pc := 43) (mX5_addSentence l D κ a ε V N way num m S T u hA c hc (by omega) hS6) 0 rfl rfl (gdV wm_166 wm_167 wm_168 wm_2 wm_169) (by decide +kernel) ⟨(Nat.le_of_ble_eq_true rfl), (Nat.le_of_ble_eq_true rfl)⟩ ⟨(Nat.le_of_ble_eq_true rfl), (Nat.le_of_ble_eq_true rfl)⟩ (fun _ _ _ => ⟨rfl, rfl⟩) (Nat.le_of_ble_eq_true rfl) dX5_scoreLearned_43 (fun v1 u1 hp1 => ?_)
  obtain ⟨rfl, hF1, T1, hA1, hs1⟩ := hp1
  simp only [Option.toList_none, List.nil_append]
  refine w_aload_n h (pc := 46) dX5_scoreLearned_46 rfl ?_
  refine w_callV0 h (pc := 47) (mX5_sumOfCosts l D κ a ε V N way num (m + 28) S T1 u1 hA1) 0 rfl rfl (gdV wm_337 wm_338 wm_339 wm_2 wm_340) (by decide +kernel) ⟨(Nat.le_of_ble_eq_true rfl), (Nat.le_of_ble_eq_true rfl)⟩ ⟨(Nat.le_of_ble_eq_true rfl), (Nat.le_of_ble_eq_true rfl)⟩ (fun _ _ _ => ⟨rfl, rfl⟩) (Nat.le_of_ble_eq_true rfl) dX5_scoreLearned_47 (fun v2 u2 hp2 => ?_)
  obtain ⟨rfl, hF2⟩ := hp2
  have hA2 := hA1.of hF2 (by simp [tS]) (by simp [tG]) (by simp) (by simp)
  simp only [Option.toList_some, List.cons_append, List.nil_append]
  refine w_istore_n h (pc := 50) dX5_scoreLearned_50 (by decide) ?_
  refine w_aload_n h (pc := 51) dX5_scoreLearned_51 rfl ?_
  refine w_iload_n h (pc := 52) dX5_scoreLearned_52 rfl ?_
  refine w_callV1 h (pc := 53) (mX5_takeSentence l D κ a ε V N way num (m + 28) S T1 u2 hA2 c hc) 0 rfl rfl (gdV wm_204 wm_205 wm_206 wm_2 wm_207) (by decide +kernel) ⟨(Nat.le_of_ble_eq_true rfl), (Nat.le_of_ble_eq_true rfl)⟩ ⟨(Nat.le_of_ble_eq_true rfl), (Nat.le_of_ble_eq_true rfl)⟩ (fun _ _ _ => ⟨rfl, rfl⟩) (Nat.le_of_ble_eq_true rfl) dX5_scoreLearned_53 (fun v3 u3 hp3 => ?_)
  obtain ⟨⟨g, rfl, hg⟩, hF3, hx3⟩ := hp3
  simp only [Option.toList_some, List.cons_append, List.nil_append]
  refine w_pop h (pc := 56) dX5_scoreLearned_56 rfl ?_
  refine w_iload_n h (pc := 57) dX5_scoreLearned_57 rfl ?_
  exact w_iret h (pc := 58) (ty := .int) rfl rfl dX5_scoreLearned_58 (Nat.le_of_ble_eq_true rfl) (Nat.le_of_ble_eq_true rfl) ⟨((hF1.up (by intro k hk; simp_all) (by intro k hk; simp_all)).tr (hF2.up (by simp) (by simp))).tr (hF3.up (by intro k hk; simp_all) (by intro k hk; simp_all)), T1, rfl, hs1, hx3⟩

set_option maxHeartbeats 4000000 in
set_option maxRecDepth 100000 in
theorem mX2_append (l : Launch) (D : va_G) (κ a : Nat → Nat) (ε : Nat) (u : US) (e0 : u.1 11 = 0) : Ct (W0 κ a) l D κ ε yX2_append cX2_append 3 (some .int) 0 0 0 0 u [.ref (a 4), .int (iI 3), .int (iI 1)] (fun v u' => v = some (.int (iI 0)) ∧ Fr [11] [15, 16] u u' ∧ u'.1 11 = 1 ∧ u'.2 15 0 = 3 ∧ u'.2 16 0 = 1) := by
  refine Ct.of (own := RX2) rfl (by decide +kernel) (Nat.le_of_ble_eq_true rfl) rfl (fun Γ h => ?_)
  refine w_aload_n h (pc := 0) dX2_append_0 rfl ?_
  refine g4_size h (pc := 1) e0 wm_82 dX2_append_1 ?_
  refine w_bipush h (pc := 4) dX2_append_4 (by decide) ?_
  refine w_icmp_ge h (pc := 6) (tgt := 39) dX2_append_6 (by decide) (by omega) (by omega) (fun c6 => by exfalso; omega) (fun c6 => ?_)
  refine w_aload_n h (pc := 9) dX2_append_9 rfl ?_
  refine g4_codes h (pc := 10) wm_79 dX2_append_10 ?_
  refine w_aload_n h (pc := 13) dX2_append_13 rfl ?_
  refine g4_size h (pc := 14) e0 wm_82 dX2_append_14 ?_
  refine w_iload_n h (pc := 17) dX2_append_17 rfl ?_
  refine st_codes h (pc := 18) (by omega) dX2_append_18 ?_
  refine w_aload_n h (pc := 19) dX2_append_19 rfl ?_
  refine g4_numbers h (pc := 20) wm_80 dX2_append_20 ?_
  refine w_aload_n h (pc := 23) dX2_append_23 rfl ?_
  refine g4_size h (pc := 24) e0 wm_82 dX2_append_24 ?_
  refine w_iload_n h (pc := 27) dX2_append_27 rfl ?_
  refine st_numbers h (pc := 28) (by omega) dX2_append_28 ?_
  refine w_aload_n h (pc := 29) dX2_append_29 rfl ?_
  refine w_dup h (pc := 30) dX2_append_30 rfl ?_
  refine g4_size h (pc := 31) e0 wm_82 dX2_append_31 ?_
  refine w_iconst h (pc := 34) dX2_append_34 ?_
  refine w_iadd h (pc := 35) dX2_append_35 ?_
  refine p4_size h (pc := 36) wm_82 dX2_append_36 ?_
  refine w_aload_n h (pc := 39) dX2_append_39 rfl ?_
  refine g4_size h (pc := 40) rfl wm_82 dX2_append_40 ?_
  refine w_iconst h (pc := 43) dX2_append_43 ?_
  refine w_isub h (pc := 44) dX2_append_44 ?_
  exact w_iret h (pc := 45) (ty := .int) rfl rfl dX2_append_45 (Nat.le_of_ble_eq_true rfl) (Nat.le_of_ble_eq_true rfl) ⟨rfl, ((Fr.A (by simp)).tr (Fr.A (by simp))).tr (Fr.S (by simp)), rfl, rfl, rfl⟩

set_option maxHeartbeats 4000000 in
set_option maxRecDepth 100000 in
theorem mX2_forgetReturns (l : Launch) (D : va_G) (κ a : Nat → Nat) (ε : Nat) (u : US) : Ct (W0 κ a) l D κ ε yX2_forgetReturns cX2_forgetReturns 1 none 1 23 0 0 u [.ref (a 4)] (fun v u' => v = none ∧ Fr [] [17] u u') := by
  refine Ct.of (own := RX2) rfl (by decide +kernel) (Nat.le_of_ble_eq_true rfl) rfl (fun Γ h => ?_)
  refine w_aload_n h (pc := 0) dX2_forgetReturns_0 rfl ?_
  refine g4_returns h (pc := 1) wm_81 dX2_forgetReturns_1 ?_
  refine w_iconst h (pc := 4) dX2_forgetReturns_4 ?_
  refine w_callS2 h (pc := 5) (mJ7_fill l D κ a ε u 17 12 0 (by decide) (fun _ => rfl) (fun _ _ => rfl)) (gdS wm_505 wm_289 wm_290 wm_291) (by decide +kernel) ⟨(Nat.le_of_ble_eq_true rfl), (Nat.le_of_ble_eq_true rfl)⟩ ⟨(Nat.le_of_ble_eq_true rfl), (Nat.le_of_ble_eq_true rfl)⟩ (fun _ _ _ => ⟨rfl, rfl⟩) (Nat.le_of_ble_eq_true rfl) dX2_forgetReturns_5 (fun v1 u1 hp1 => ?_)
  obtain ⟨rfl, e1⟩ := hp1
  subst e1
  simp only [Option.toList_none, List.nil_append]
  exact w_vret h (pc := 8) rfl dX2_forgetReturns_8 (Nat.le_of_ble_eq_true rfl) (Nat.le_of_ble_eq_true rfl) ⟨rfl, Fr.A (by simp)⟩

set_option maxHeartbeats 4000000 in
set_option maxRecDepth 100000 in
theorem mX5_addStep (l : Launch) (D : va_G) (κ a : Nat → Nat) (ε : Nat) (u : US) (e0 : u.1 11 = 0) : Ct (W0 κ a) l D κ ε yX5_addStep cX5_addStep 3 (some .int) 3 62 0 0 u [.ref (a 0), .int (iI 3), .int (iI 1)] (fun v u' => v = some (.int (iI 0)) ∧ Fr [11] [15, 16] u u' ∧ u'.1 11 = 1 ∧ u'.2 15 0 = 3 ∧ u'.2 16 0 = 1) := by
  refine Ct.of (own := RX5) rfl (by decide +kernel) (Nat.le_of_ble_eq_true rfl) rfl (fun Γ h => ?_)
  refine w_aload_n h (pc := 0) dX5_addStep_0 rfl ?_
  refine w_iload_n h (pc := 1) dX5_addStep_1 rfl ?_
  refine w_iload_n h (pc := 2) dX5_addStep_2 rfl ?_
  refine w_callV2 h (pc := 3) (mX5_isStep l D κ a ε u) 0 rfl rfl (gdV wm_487 wm_488 wm_489 wm_2 wm_490) (by decide +kernel) ⟨(Nat.le_of_ble_eq_true rfl), (Nat.le_of_ble_eq_true rfl)⟩ ⟨(Nat.le_of_ble_eq_true rfl), (Nat.le_of_ble_eq_true rfl)⟩ (fun _ _ _ => ⟨rfl, rfl⟩) (Nat.le_of_ble_eq_true rfl) dX5_addStep_3 (fun v1 u1 hp1 => ?_)
  obtain ⟨rfl, e1⟩ := hp1
  obtain rfl := e1.symm
  simp only [Option.toList_some, List.cons_append, List.nil_append]
  refine w_if_ne h (pc := 6) (tgt := 19) dX5_addStep_6 (by decide) (by omega) (fun c6 => ?_) (fun c6 => by exfalso; omega)
  refine w_aload_n h (pc := 19) dX5_addStep_19 rfl ?_
  refine g0_script h (pc := 20) wm_28 dX5_addStep_20 ?_
  refine g4_size h (pc := 23) e0 wm_486 dX5_addStep_23 ?_
  refine w_bipush h (pc := 26) dX5_addStep_26 (by decide) ?_
  refine w_icmp_lt h (pc := 28) (tgt := 41) dX5_addStep_28 (by decide) (by omega) (by omega) (fun c28 => ?_) (fun c28 => by exfalso; omega)
  refine w_aload_n h (pc := 41) dX5_addStep_41 rfl ?_
  refine g0_script h (pc := 42) wm_28 dX5_addStep_42 ?_
  refine w_iload_n h (pc := 45) dX5_addStep_45 rfl ?_
  refine w_iload_n h (pc := 46) dX5_addStep_46 rfl ?_
  refine w_callV2 h (pc := 47) (mX2_append l D κ a ε u e0) 4 rfl rfl (gdV wm_491 wm_492 wm_493 wm_27 wm_494) (by decide +kernel) ⟨(Nat.le_of_ble_eq_true rfl), (Nat.le_of_ble_eq_true rfl)⟩ ⟨(Nat.le_of_ble_eq_true rfl), (Nat.le_of_ble_eq_true rfl)⟩ (fun _ _ _ => ⟨rfl, rfl⟩) (Nat.le_of_ble_eq_true rfl) dX5_addStep_47 (fun v2 u2 hp2 => ?_)
  obtain ⟨rfl, hx⟩ := hp2
  simp only [Option.toList_some, List.cons_append, List.nil_append]
  exact w_iret h (pc := 50) (ty := .int) rfl rfl dX5_addStep_50 (Nat.le_of_ble_eq_true rfl) (Nat.le_of_ble_eq_true rfl) ⟨rfl, hx⟩

set_option maxHeartbeats 4000000 in
set_option maxRecDepth 100000 in
theorem mX5_hasEnded (l : Launch) (D : va_G) (κ a : Nat → Nat) (ε : Nat) (u : US) (z : Int) (hz : z = 0 ∨ z = 1) (e3 : u.1 3 = z) : Ct (W0 κ a) l D κ ε yX5_hasEnded cX5_hasEnded 1 (some .boolean) 0 0 0 0 u [.ref (a 0)] (fun v u' => v = some (.int (iI z)) ∧ u' = u) := by
  refine Ct.of (own := RX5) rfl (by decide +kernel) (Nat.le_of_ble_eq_true rfl) rfl (fun Γ h => ?_)
  refine w_aload_n h (pc := 0) dX5_hasEnded_0 rfl ?_
  refine g0_ended h (pc := 1) e3 wm_36 dX5_hasEnded_1 ?_
  exact w_iret h (pc := 4) (ty := .boolean) rfl (by rcases hz with rfl | rfl <;> rfl) dX5_hasEnded_4 (Nat.le_of_ble_eq_true rfl) (Nat.le_of_ble_eq_true rfl) ⟨rfl, rfl⟩
end
section
theorem dX5_digest_0 : decode cX5_digest 0 = .ok (.ldc2_w 253, 3) := by decide +kernel
theorem dX5_digest_3 : decode cX5_digest 3 = .ok (.lstore_n 1, 1) := by decide +kernel
theorem dX5_digest_4 : decode cX5_digest 4 = .ok (.lload_n 1, 1) := by decide +kernel
theorem dX5_digest_5 : decode cX5_digest 5 = .ok (.aload_n 0, 1) := by decide +kernel
theorem dX5_digest_6 : decode cX5_digest 6 = .ok (.getfield 10, 3) := by decide +kernel
theorem dX5_digest_9 : decode cX5_digest 9 = .ok (.getfield 65, 3) := by decide +kernel
theorem dX5_digest_12 : decode cX5_digest 12 = .ok (.i2l, 1) := by decide +kernel
theorem dX5_digest_13 : decode cX5_digest 13 = .ok (.invokestatic 255, 3) := by decide +kernel
theorem dX5_digest_16 : decode cX5_digest 16 = .ok (.lstore_n 1, 1) := by decide +kernel
theorem dX5_digest_17 : decode cX5_digest 17 = .ok (.lload_n 1, 1) := by decide +kernel
theorem dX5_digest_18 : decode cX5_digest 18 = .ok (.aload_n 0, 1) := by decide +kernel
theorem dX5_digest_19 : decode cX5_digest 19 = .ok (.getfield 10, 3) := by decide +kernel
theorem dX5_digest_22 : decode cX5_digest 22 = .ok (.getfield 83, 3) := by decide +kernel
theorem dX5_digest_25 : decode cX5_digest 25 = .ok (.i2l, 1) := by decide +kernel
theorem dX5_digest_26 : decode cX5_digest 26 = .ok (.invokestatic 255, 3) := by decide +kernel
theorem dX5_digest_29 : decode cX5_digest 29 = .ok (.lstore_n 1, 1) := by decide +kernel
theorem dX5_digest_30 : decode cX5_digest 30 = .ok (.lload_n 1, 1) := by decide +kernel
theorem dX5_digest_31 : decode cX5_digest 31 = .ok (.aload_n 0, 1) := by decide +kernel
theorem dX5_digest_32 : decode cX5_digest 32 = .ok (.getfield 51, 3) := by decide +kernel
theorem dX5_digest_35 : decode cX5_digest 35 = .ok (.i2l, 1) := by decide +kernel
theorem dX5_digest_36 : decode cX5_digest 36 = .ok (.invokestatic 255, 3) := by decide +kernel
theorem dX5_digest_39 : decode cX5_digest 39 = .ok (.lstore_n 1, 1) := by decide +kernel
theorem dX5_digest_40 : decode cX5_digest 40 = .ok (.iconst 0, 1) := by decide +kernel
theorem dX5_digest_41 : decode cX5_digest 41 = .ok (.istore_n 3, 1) := by decide +kernel
theorem dX5_digest_42 : decode cX5_digest 42 = .ok (.iload_n 3, 1) := by decide +kernel
theorem dX5_digest_43 : decode cX5_digest 43 = .ok (.aload_n 0, 1) := by decide +kernel
theorem dX5_digest_44 : decode cX5_digest 44 = .ok (.getfield 51, 3) := by decide +kernel
theorem dX5_digest_47 : decode cX5_digest 47 = .ok (.if_icmp .ge 21, 3) := by decide +kernel
theorem dX5_digest_50 : decode cX5_digest 50 = .ok (.lload_n 1, 1) := by decide +kernel
theorem dX5_digest_51 : decode cX5_digest 51 = .ok (.aload_n 0, 1) := by decide +kernel
theorem dX5_digest_52 : decode cX5_digest 52 = .ok (.getfield 47, 3) := by decide +kernel
theorem dX5_digest_55 : decode cX5_digest 55 = .ok (.iload_n 3, 1) := by decide +kernel
theorem dX5_digest_56 : decode cX5_digest 56 = .ok (.iaload, 1) := by decide +kernel
theorem dX5_digest_57 : decode cX5_digest 57 = .ok (.i2l, 1) := by decide +kernel
theorem dX5_digest_58 : decode cX5_digest 58 = .ok (.invokestatic 255, 3) := by decide +kernel
theorem dX5_digest_61 : decode cX5_digest 61 = .ok (.lstore_n 1, 1) := by decide +kernel
theorem dX5_digest_62 : decode cX5_digest 62 = .ok (.iinc 3 1, 3) := by decide +kernel
theorem dX5_digest_65 : decode cX5_digest 65 = .ok (.goto (-23), 3) := by decide +kernel
theorem dX5_digest_68 : decode cX5_digest 68 = .ok (.iconst 1, 1) := by decide +kernel
theorem dX5_digest_69 : decode cX5_digest 69 = .ok (.istore_n 3, 1) := by decide +kernel
theorem dX5_digest_70 : decode cX5_digest 70 = .ok (.iload_n 3, 1) := by decide +kernel
theorem dX5_digest_71 : decode cX5_digest 71 = .ok (.aload_n 0, 1) := by decide +kernel
theorem dX5_digest_72 : decode cX5_digest 72 = .ok (.getfield 10, 3) := by decide +kernel
theorem dX5_digest_75 : decode cX5_digest 75 = .ok (.getfield 83, 3) := by decide +kernel
theorem dX5_digest_78 : decode cX5_digest 78 = .ok (.if_icmp .gt 16, 3) := by decide +kernel
theorem dX5_digest_81 : decode cX5_digest 81 = .ok (.aload_n 0, 1) := by decide +kernel
theorem dX5_digest_82 : decode cX5_digest 82 = .ok (.lload_n 1, 1) := by decide +kernel
theorem dX5_digest_83 : decode cX5_digest 83 = .ok (.iload_n 3, 1) := by decide +kernel
theorem dX5_digest_84 : decode cX5_digest 84 = .ok (.invokevirtual 259, 3) := by decide +kernel
theorem dX5_digest_87 : decode cX5_digest 87 = .ok (.lstore_n 1, 1) := by decide +kernel
theorem dX5_digest_88 : decode cX5_digest 88 = .ok (.iinc 3 1, 3) := by decide +kernel
theorem dX5_digest_91 : decode cX5_digest 91 = .ok (.goto (-21), 3) := by decide +kernel
theorem dX5_digest_94 : decode cX5_digest 94 = .ok (.iconst 1, 1) := by decide +kernel
theorem dX5_digest_95 : decode cX5_digest 95 = .ok (.istore_n 3, 1) := by decide +kernel
theorem dX5_digest_96 : decode cX5_digest 96 = .ok (.iload_n 3, 1) := by decide +kernel
theorem dX5_digest_97 : decode cX5_digest 97 = .ok (.aload_n 0, 1) := by decide +kernel
theorem dX5_digest_98 : decode cX5_digest 98 = .ok (.getfield 10, 3) := by decide +kernel
theorem dX5_digest_101 : decode cX5_digest 101 = .ok (.getfield 83, 3) := by decide +kernel
theorem dX5_digest_104 : decode cX5_digest 104 = .ok (.if_icmp .gt 33, 3) := by decide +kernel
theorem dX5_digest_107 : decode cX5_digest 107 = .ok (.lload_n 1, 1) := by decide +kernel
theorem dX5_digest_108 : decode cX5_digest 108 = .ok (.aload_n 0, 1) := by decide +kernel
theorem dX5_digest_109 : decode cX5_digest 109 = .ok (.iload_n 3, 1) := by decide +kernel
theorem dX5_digest_110 : decode cX5_digest 110 = .ok (.iconst 0, 1) := by decide +kernel
theorem dX5_digest_111 : decode cX5_digest 111 = .ok (.invokevirtual 154, 3) := by decide +kernel
theorem dX5_digest_114 : decode cX5_digest 114 = .ok (.i2l, 1) := by decide +kernel
theorem dX5_digest_115 : decode cX5_digest 115 = .ok (.invokestatic 255, 3) := by decide +kernel
theorem dX5_digest_118 : decode cX5_digest 118 = .ok (.lstore_n 1, 1) := by decide +kernel
theorem dX5_digest_119 : decode cX5_digest 119 = .ok (.lload_n 1, 1) := by decide +kernel
theorem dX5_digest_120 : decode cX5_digest 120 = .ok (.aload_n 0, 1) := by decide +kernel
theorem dX5_digest_121 : decode cX5_digest 121 = .ok (.iload_n 3, 1) := by decide +kernel
theorem dX5_digest_122 : decode cX5_digest 122 = .ok (.iconst 1, 1) := by decide +kernel
theorem dX5_digest_123 : decode cX5_digest 123 = .ok (.invokevirtual 154, 3) := by decide +kernel
theorem dX5_digest_126 : decode cX5_digest 126 = .ok (.i2l, 1) := by decide +kernel
theorem dX5_digest_127 : decode cX5_digest 127 = .ok (.invokestatic 255, 3) := by decide +kernel
theorem dX5_digest_130 : decode cX5_digest 130 = .ok (.lstore_n 1, 1) := by decide +kernel
theorem dX5_digest_131 : decode cX5_digest 131 = .ok (.iinc 3 1, 3) := by decide +kernel
theorem dX5_digest_134 : decode cX5_digest 134 = .ok (.goto (-38), 3) := by decide +kernel
theorem dX5_digest_137 : decode cX5_digest 137 = .ok (.aload_n 0, 1) := by decide +kernel
theorem dX5_digest_138 : decode cX5_digest 138 = .ok (.lload_n 1, 1) := by decide +kernel
theorem dX5_digest_139 : decode cX5_digest 139 = .ok (.invokevirtual 263, 3) := by decide +kernel
theorem dX5_digest_142 : decode cX5_digest 142 = .ok (.lstore_n 1, 1) := by decide +kernel
theorem dX5_digest_143 : decode cX5_digest 143 = .ok (.lload_n 1, 1) := by decide +kernel
theorem dX5_digest_144 : decode cX5_digest 144 = .ok (.aload_n 0, 1) := by decide +kernel
theorem dX5_digest_145 : decode cX5_digest 145 = .ok (.invokevirtual 197, 3) := by decide +kernel
theorem dX5_digest_148 : decode cX5_digest 148 = .ok (.i2l, 1) := by decide +kernel
theorem dX5_digest_149 : decode cX5_digest 149 = .ok (.invokestatic 255, 3) := by decide +kernel
theorem dX5_digest_152 : decode cX5_digest 152 = .ok (.lstore_n 1, 1) := by decide +kernel
theorem dX5_digest_153 : decode cX5_digest 153 = .ok (.lload_n 1, 1) := by decide +kernel
theorem dX5_digest_154 : decode cX5_digest 154 = .ok (.aload_n 0, 1) := by decide +kernel
theorem dX5_digest_155 : decode cX5_digest 155 = .ok (.getfield 55, 3) := by decide +kernel
theorem dX5_digest_158 : decode cX5_digest 158 = .ok (.i2l, 1) := by decide +kernel
theorem dX5_digest_159 : decode cX5_digest 159 = .ok (.invokestatic 255, 3) := by decide +kernel
theorem dX5_digest_162 : decode cX5_digest 162 = .ok (.lstore_n 1, 1) := by decide +kernel
theorem dX5_digest_163 : decode cX5_digest 163 = .ok (.lload_n 1, 1) := by decide +kernel
theorem dX5_digest_164 : decode cX5_digest 164 = .ok (.aload_n 0, 1) := by decide +kernel
theorem dX5_digest_165 : decode cX5_digest 165 = .ok (.getfield 58, 3) := by decide +kernel
theorem dX5_digest_168 : decode cX5_digest 168 = .ok (.i2l, 1) := by decide +kernel
theorem dX5_digest_169 : decode cX5_digest 169 = .ok (.invokestatic 255, 3) := by decide +kernel
theorem dX5_digest_172 : decode cX5_digest 172 = .ok (.lstore_n 1, 1) := by decide +kernel
theorem dX5_digest_173 : decode cX5_digest 173 = .ok (.lload_n 1, 1) := by decide +kernel
theorem dX5_digest_174 : decode cX5_digest 174 = .ok (.aload_n 0, 1) := by decide +kernel
theorem dX5_digest_175 : decode cX5_digest 175 = .ok (.getfield 61, 3) := by decide +kernel
theorem dX5_digest_178 : decode cX5_digest 178 = .ok (.ifCond .eq 7, 3) := by decide +kernel
theorem dX5_digest_181 : decode cX5_digest 181 = .ok (.lconst 1, 1) := by decide +kernel
theorem dX5_digest_182 : decode cX5_digest 182 = .ok (.goto 4, 3) := by decide +kernel
theorem dX5_digest_185 : decode cX5_digest 185 = .ok (.lconst 0, 1) := by decide +kernel
theorem dX5_digest_186 : decode cX5_digest 186 = .ok (.invokestatic 255, 3) := by decide +kernel
theorem dX5_digest_189 : decode cX5_digest 189 = .ok (.lreturn, 1) := by decide +kernel
theorem dX5_runScript_0 : decode cX5_runScript 0 = .ok (.aload_n 0, 1) := by decide +kernel
theorem dX5_runScript_1 : decode cX5_runScript 1 = .ok (.getfield 10, 3) := by decide +kernel
theorem dX5_runScript_4 : decode cX5_runScript 4 = .ok (.getfield 65, 3) := by decide +kernel
theorem dX5_runScript_7 : decode cX5_runScript 7 = .ok (.ifCond .eq 13, 3) := by decide +kernel
theorem dX5_runScript_10 : decode cX5_runScript 10 = .ok (.aload_n 0, 1) := by decide +kernel
theorem dX5_runScript_11 : decode cX5_runScript 11 = .ok (.getfield 37, 3) := by decide +kernel
theorem dX5_runScript_14 : decode cX5_runScript 14 = .ok (.getfield 222, 3) := by decide +kernel
theorem dX5_runScript_17 : decode cX5_runScript 17 = .ok (.ifCond .ne 13, 3) := by decide +kernel
theorem dX5_runScript_30 : decode cX5_runScript 30 = .ok (.aload_n 0, 1) := by decide +kernel
theorem dX5_runScript_31 : decode cX5_runScript 31 = .ok (.iconst 0, 1) := by decide +kernel
theorem dX5_runScript_32 : decode cX5_runScript 32 = .ok (.putfield 61, 3) := by decide +kernel
theorem dX5_runScript_35 : decode cX5_runScript 35 = .ok (.aload_n 0, 1) := by decide +kernel
theorem dX5_runScript_36 : decode cX5_runScript 36 = .ok (.getfield 37, 3) := by decide +kernel
theorem dX5_runScript_39 : decode cX5_runScript 39 = .ok (.invokevirtual 229, 3) := by decide +kernel
theorem dX5_runScript_42 : decode cX5_runScript 42 = .ok (.iconst 0, 1) := by decide +kernel
theorem dX5_runScript_43 : decode cX5_runScript 43 = .ok (.istore_n 1, 1) := by decide +kernel
theorem dX5_runScript_44 : decode cX5_runScript 44 = .ok (.iconst 0, 1) := by decide +kernel
theorem dX5_runScript_45 : decode cX5_runScript 45 = .ok (.istore_n 2, 1) := by decide +kernel
theorem dX5_runScript_46 : decode cX5_runScript 46 = .ok (.iload_n 2, 1) := by decide +kernel
theorem dX5_runScript_47 : decode cX5_runScript 47 = .ok (.ldc 163, 2) := by decide +kernel
theorem dX5_runScript_49 : decode cX5_runScript 49 = .ok (.if_icmp .ge 89, 3) := by decide +kernel
theorem dX5_runScript_52 : decode cX5_runScript 52 = .ok (.iload_n 1, 1) := by decide +kernel
theorem dX5_runScript_53 : decode cX5_runScript 53 = .ok (.aload_n 0, 1) := by decide +kernel
theorem dX5_runScript_54 : decode cX5_runScript 54 = .ok (.getfield 37, 3) := by decide +kernel
theorem dX5_runScript_57 : decode cX5_runScript 57 = .ok (.getfield 222, 3) := by decide +kernel
theorem dX5_runScript_60 : decode cX5_runScript 60 = .ok (.if_icmp .ge 78, 3) := by decide +kernel
theorem dX5_runScript_63 : decode cX5_runScript 63 = .ok (.aload_n 0, 1) := by decide +kernel
theorem dX5_runScript_64 : decode cX5_runScript 64 = .ok (.getfield 61, 3) := by decide +kernel
theorem dX5_runScript_67 : decode cX5_runScript 67 = .ok (.ifCond .ne 71, 3) := by decide +kernel
theorem dX5_runScript_70 : decode cX5_runScript 70 = .ok (.aload_n 0, 1) := by decide +kernel
theorem dX5_runScript_71 : decode cX5_runScript 71 = .ok (.getfield 51, 3) := by decide +kernel
theorem dX5_runScript_74 : decode cX5_runScript 74 = .ok (.bipush 12, 2) := by decide +kernel
theorem dX5_runScript_76 : decode cX5_runScript 76 = .ok (.if_icmp .lt 6, 3) := by decide +kernel
theorem dX5_runScript_82 : decode cX5_runScript 82 = .ok (.aload_n 0, 1) := by decide +kernel
theorem dX5_runScript_83 : decode cX5_runScript 83 = .ok (.getfield 37, 3) := by decide +kernel
theorem dX5_runScript_86 : decode cX5_runScript 86 = .ok (.getfield 232, 3) := by decide +kernel
theorem dX5_runScript_89 : decode cX5_runScript 89 = .ok (.iload_n 1, 1) := by decide +kernel
theorem dX5_runScript_90 : decode cX5_runScript 90 = .ok (.iaload, 1) := by decide +kernel
theorem dX5_runScript_91 : decode cX5_runScript 91 = .ok (.iconst 5, 1) := by decide +kernel
theorem dX5_runScript_92 : decode cX5_runScript 92 = .ok (.if_icmp .ne 15, 3) := by decide +kernel
theorem dX5_runScript_107 : decode cX5_runScript 107 = .ok (.aload_n 0, 1) := by decide +kernel
theorem dX5_runScript_108 : decode cX5_runScript 108 = .ok (.aload_n 0, 1) := by decide +kernel
theorem dX5_runScript_109 : decode cX5_runScript 109 = .ok (.getfield 37, 3) := by decide +kernel
theorem dX5_runScript_112 : decode cX5_runScript 112 = .ok (.getfield 232, 3) := by decide +kernel
theorem dX5_runScript_115 : decode cX5_runScript 115 = .ok (.iload_n 1, 1) := by decide +kernel
theorem dX5_runScript_116 : decode cX5_runScript 116 = .ok (.iaload, 1) := by decide +kernel
theorem dX5_runScript_117 : decode cX5_runScript 117 = .ok (.aload_n 0, 1) := by decide +kernel
theorem dX5_runScript_118 : decode cX5_runScript 118 = .ok (.getfield 37, 3) := by decide +kernel
theorem dX5_runScript_121 : decode cX5_runScript 121 = .ok (.getfield 238, 3) := by decide +kernel
theorem dX5_runScript_124 : decode cX5_runScript 124 = .ok (.iload_n 1, 1) := by decide +kernel
theorem dX5_runScript_125 : decode cX5_runScript 125 = .ok (.iaload, 1) := by decide +kernel
theorem dX5_runScript_126 : decode cX5_runScript 126 = .ok (.invokevirtual 241, 3) := by decide +kernel
theorem dX5_runScript_129 : decode cX5_runScript 129 = .ok (.iinc 1 1, 3) := by decide +kernel
theorem dX5_runScript_132 : decode cX5_runScript 132 = .ok (.iinc 2 1, 3) := by decide +kernel
theorem dX5_runScript_135 : decode cX5_runScript 135 = .ok (.goto (-89), 3) := by decide +kernel
theorem dX5_runScript_138 : decode cX5_runScript 138 = .ok (.aload_n 0, 1) := by decide +kernel
theorem dX5_runScript_139 : decode cX5_runScript 139 = .ok (.getfield 51, 3) := by decide +kernel
theorem dX5_runScript_142 : decode cX5_runScript 142 = .ok (.ireturn, 1) := by decide +kernel
set_option maxHeartbeats 4000000 in
set_option maxRecDepth 100000 in
theorem mX5_digest (l : Launch) (D : va_G) (κ a : Nat → Nat) (ε : Nat) (V N way num m : Nat) (S : List Nat) (T : Nat → List (Nat × Nat)) (u : US) (hA : AB V N way num m S T u) (lk9 dr ed : Nat) (hlk : lk9 < 10000) (hdr : dr ≤ 1000) (hed : ed ≤ 1) (elk : u.1 1 = (lk9 : Int)) (edr : u.1 2 = (dr : Int)) (eed : u.1 3 = (ed : Int)) : Ct (W0 κ a) l D κ ε yX5_digest cX5_digest 4 (some .long) 6 141 0 0 u [.ref (a 0)] (fun v u' => v = some (.long (lI (dgs V N way num S T lk9 dr ed))) ∧ Fr [8, 9] [9, 10] u u') := by
  obtain ⟨⟨hV, hN, hway, hnum, hm, hSl, hSV⟩, eV, eN, ew, en, ⟨eS, hS⟩, hT⟩ := id hA
  refine Ct.of (own := RX5) rfl (by decide +kernel) (Nat.le_of_ble_eq_true rfl) rfl (fun Γ h => ?_)
  refine w_ldc2 h (pc := 0) (z := 58041) dX5_digest_0 wm_257 (by decide) ?_
  refine w_lstore_n h (pc := 3) dX5_digest_3 (by decide) ?_
  refine w_lload_n h (pc := 4) dX5_digest_4 rfl ?_
  refine w_aload_n h (pc := 5) dX5_digest_5 rfl ?_
  refine g0_ledger h (pc := 6) wm_16 dX5_digest_6 ?_
  refine g1_words h (pc := 9) eV wm_113 dX5_digest_9 ?_
  refine w_i2l h (pc := 12) dX5_digest_12 (by omega) ?_
  refine w_callS2 h (pc := 13) (mX5_mix l D κ a ε u 58041 (V : Int)) (gdS wm_258 wm_259 wm_2 wm_260) (by decide +kernel) ⟨(Nat.le_of_ble_eq_true rfl), (Nat.le_of_ble_eq_true rfl)⟩ ⟨(Nat.le_of_ble_eq_true rfl), (Nat.le_of_ble_eq_true rfl)⟩ (fun _ _ _ => ⟨rfl, rfl⟩) (Nat.le_of_ble_eq_true rfl) dX5_digest_13 (fun v1 u1 hp1 => ?_)
  obtain ⟨rfl, e1⟩ := hp1
  obtain rfl := e1.symm
  simp only [Option.toList_some, List.cons_append, List.nil_append]
  refine w_lstore_n h (pc := 16) dX5_digest_16 (by decide) ?_
  refine w_lload_n h (pc := 17) dX5_digest_17 rfl ?_
  refine w_aload_n h (pc := 18) dX5_digest_18 rfl ?_
  refine g0_ledger h (pc := 19) wm_16 dX5_digest_19 ?_
  refine g1_order h (pc := 22) eN wm_140 dX5_digest_22 ?_
  refine w_i2l h (pc := 25) dX5_digest_25 (by omega) ?_
  refine w_callS2 h (pc := 26) (mX5_mix l D κ a ε u _ (N : Int)) (gdS wm_258 wm_259 wm_2 wm_260) (by decide +kernel) ⟨(Nat.le_of_ble_eq_true rfl), (Nat.le_of_ble_eq_true rfl)⟩ ⟨(Nat.le_of_ble_eq_true rfl), (Nat.le_of_ble_eq_true rfl)⟩ (fun _ _ _ => ⟨rfl, rfl⟩) (Nat.le_of_ble_eq_true rfl) dX5_digest_26 (fun v2 u2 hp2 => ?_)
  obtain ⟨rfl, e2⟩ := hp2
  obtain rfl := e2.symm
  simp only [Option.toList_some, List.cons_append, List.nil_append]
  refine w_lstore_n h (pc := 29) dX5_digest_29 (by decide) ?_
  refine w_lload_n h (pc := 30) dX5_digest_30 rfl ?_
  refine w_aload_n h (pc := 31) dX5_digest_31 rfl ?_
  refine g0_length h (pc := 32) eS wm_33 dX5_digest_32 ?_
  refine w_i2l h (pc := 35) dX5_digest_35 (by omega) ?_
  refine w_callS2 h (pc := 36) (mX5_mix l D κ a ε u _ (S.length : Int)) (gdS wm_258 wm_259 wm_2 wm_260) (by decide +kernel) ⟨(Nat.le_of_ble_eq_true rfl), (Nat.le_of_ble_eq_true rfl)⟩ ⟨(Nat.le_of_ble_eq_true rfl), (Nat.le_of_ble_eq_true rfl)⟩ (fun _ _ _ => ⟨rfl, rfl⟩) (Nat.le_of_ble_eq_true rfl) dX5_digest_36 (fun v3 u3 hp3 => ?_)
  obtain ⟨rfl, e3⟩ := hp3
  obtain rfl := e3.symm
  simp only [Option.toList_some, List.cons_append, List.nil_append]
  refine w_lstore_n h (pc := 39) dX5_digest_39 (by decide) ?_
  refine w_iconst h (pc := 40) dX5_digest_40 ?_
  refine w_istore_n h (pc := 41) dX5_digest_41 (by decide) ?_
  have lp42 : ∀ (n9 j : Nat) (d : Int), S.length < j + n9 → j ≤ S.length → d = fl (fun j d => d * 31 + (S.getD j 0 : Int)) j (((58041 * 31 + (V : Int)) * 31 + (N : Int)) * 31 + (S.length : Int)) → WW Γ 4 u 42 [(0, .ref (a 0)), (1, .long (lI d)), (3, .int (iI (j : Int)))] [] := by
    intro n9
    induction n9 with
    | zero => intro j d hn9 hj hd; exfalso; omega
    | succ n9 ih =>
      intro j d hn9 hj hd
      refine w_iload_n h (pc := 42) dX5_digest_42 rfl ?_
      refine w_aload_n h (pc := 43) dX5_digest_43 rfl ?_
      refine g0_length h (pc := 44) eS wm_33 dX5_digest_44 ?_
      refine w_icmp_ge h (pc := 47) (tgt := 68) dX5_digest_47 (by decide) (by omega) (by omega) (fun c47 => ?_) (fun c47 => ?_)
      · obtain rfl : j = S.length := by omega
        refine w_iconst h (pc := 68) dX5_digest_68 ?_
        refine w_istore_n h (pc := 69) dX5_digest_69 (by decide) ?_
        have lp70 : ∀ (n9 j : Nat) (d : Int), N < j + n9 → j ≤ N → d = fl (fun j d => mxE (T j) (j + 1) d) j (dg1 V N S) → WW Γ 4 u 70 [(0, .ref (a 0)), (1, .long (lI d)), (3, .int (iI ((j : Int) + 1)))] [] := by
          intro n9
          induction n9 with
          | zero => intro j d hn9 hj hd; exfalso; omega
          | succ n9 ih =>
            intro j d hn9 hj hd
            refine w_iload_n h (pc := 70) dX5_digest_70 rfl ?_
            refine w_aload_n h (pc := 71) dX5_digest_71 rfl ?_
            refine g0_ledger h (pc := 72) wm_16 dX5_digest_72 ?_
            refine g1_order h (pc := 75) eN wm_140 dX5_digest_75 ?_
            refine w_icmp_gt h (pc := 78) (tgt := 94) dX5_digest_78 (by decide) (by omega) (by omega) (fun c78 => ?_) (fun c78 => ?_)
            · obtain rfl : N = j := by omega
              refine w_iconst h (pc := 94) dX5_digest_94 ?_
              refine w_istore_n h (pc := 95) dX5_digest_95 (by decide) ?_
              have lp96 : ∀ (n9 j : Nat) (d : Int) (w : US), N < j + n9 → j ≤ N → Fr [8, 9] [10] u w → d = fl (fun j d => (d * 31 + (rfS (T j) (ofc V S T j) V : Int)) * 31 + (kd (fun w => gt (T j) (ofc V S T j * 14 + w + 1)) (V + 1) : Int)) j (dg2 V N S T) → WW Γ 4 w 96 [(0, .ref (a 0)), (1, .long (lI d)), (3, .int (iI ((j : Int) + 1)))] [] := by
                intro n9
                induction n9 with
                | zero => intro j d w hn9 hj hF hd; exfalso; omega
                | succ n9 ih =>
                  intro j d w hn9 hj hF hd
                  have hAw := hA.of hF (by simp [tS]) (by simp [tG]) (by simp) (by simp)
                  refine w_iload_n h (pc := 96) dX5_digest_96 rfl ?_
                  refine w_aload_n h (pc := 97) dX5_digest_97 rfl ?_
                  refine g0_ledger h (pc := 98) wm_16 dX5_digest_98 ?_
                  refine g1_order h (pc := 101) ((hF.1 5 (by simp)).trans eN) wm_140 dX5_digest_101 ?_
                  refine w_icmp_gt h (pc := 104) (tgt := 137) dX5_digest_104 (by decide) (by omega) (by omega) (fun c104 => ?_) (fun c104 => ?_)
                  · obtain rfl : N = j := by omega
                    refine w_aload_n h (pc := 137) dX5_digest_137 rfl ?_
                    refine w_lload_n h (pc := 138) dX5_digest_138 rfl ?_
                    refine w_callV1 h (pc := 139) (mX5_mixChances l D κ a ε V N way num m S T w hAw d) 0 rfl rfl (gdV wm_293 wm_294 wm_295 wm_2 wm_296) (by decide +kernel) ⟨(Nat.le_of_ble_eq_true rfl), (Nat.le_of_ble_eq_true rfl)⟩ ⟨(Nat.le_of_ble_eq_true rfl), (Nat.le_of_ble_eq_true rfl)⟩ (fun _ _ _ => ⟨rfl, rfl⟩) (Nat.le_of_ble_eq_true rfl) dX5_digest_139 (fun v1 u1 hp1 => ?_)
                    obtain ⟨rfl, hF1⟩ := hp1
                    have hA1 := hAw.of hF1 (by simp [tS]) (by simp [tG]) (by simp) (by simp)
                    simp only [Option.toList_some, List.cons_append, List.nil_append]
                    refine w_lstore_n h (pc := 142) dX5_digest_142 (by decide) ?_
                    refine w_lload_n h (pc := 143) dX5_digest_143 rfl ?_
                    refine w_aload_n h (pc := 144) dX5_digest_144 rfl ?_
                    refine w_callV0 h (pc := 145) (mX5_sumOfCosts l D κ a ε V N way num m S T u1 hA1) 0 rfl rfl (gdV wm_337 wm_338 wm_339 wm_2 wm_340) (by decide +kernel) ⟨(Nat.le_of_ble_eq_true rfl), (Nat.le_of_ble_eq_true rfl)⟩ ⟨(Nat.le_of_ble_eq_true rfl), (Nat.le_of_ble_eq_true rfl)⟩ (fun _ _ _ => ⟨rfl, rfl⟩) (Nat.le_of_ble_eq_true rfl) dX5_digest_145 (fun v2 u2 hp2 => ?_)
                    obtain ⟨rfl, hF2⟩ := hp2
                    have hF9 : Fr [8, 9] [9, 10] u u2 := ((hF.mono (by simp) (by simp)).tr hF1).tr hF2
                    have elk2 : u2.1 1 = (lk9 : Int) := (hF9.1 1 (by simp)).trans elk
                    have edr2 : u2.1 2 = (dr : Int) := (hF9.1 2 (by simp)).trans edr
                    have eed2 : u2.1 3 = (ed : Int) := (hF9.1 3 (by simp)).trans eed
                    have hsl := scr_le (V := V) (N := N) (way := way) (num := num) (S := S) (T := T) (S.length + 1)
                    have hsl2 : scr V N way num S T ≤ 13 * 32768 := Nat.le_trans hsl (Nat.mul_le_mul_right _ (by omega))
                    simp only [Option.toList_some, List.cons_append, List.nil_append]
                    refine w_i2l h (pc := 148) dX5_digest_148 (by omega) ?_
                    refine w_callS2 h (pc := 149) (mX5_mix l D κ a ε u2 _ (scr V N way num S T : Int)) (gdS wm_258 wm_259 wm_2 wm_260) (by decide +kernel) ⟨(Nat.le_of_ble_eq_true rfl), (Nat.le_of_ble_eq_true rfl)⟩ ⟨(Nat.le_of_ble_eq_true rfl), (Nat.le_of_ble_eq_true rfl)⟩ (fun _ _ _ => ⟨rfl, rfl⟩) (Nat.le_of_ble_eq_true rfl) dX5_digest_149 (fun v3 u3 hp3 => ?_)
                    obtain ⟨rfl, e3⟩ := hp3
                    obtain rfl := e3.symm
                    simp only [Option.toList_some, List.cons_append, List.nil_append]
                    refine w_lstore_n h (pc := 152) dX5_digest_152 (by decide) ?_
                    refine w_lload_n h (pc := 153) dX5_digest_153 rfl ?_
                    refine w_aload_n h (pc := 154) dX5_digest_154 rfl ?_
                    refine g0_luck h (pc := 155) elk2 wm_34 dX5_digest_155 ?_
                    refine w_i2l h (pc := 158) dX5_digest_158 (by omega) ?_
                    refine w_callS2 h (pc := 159) (mX5_mix l D κ a ε u2 _ (lk9 : Int)) (gdS wm_258 wm_259 wm_2 wm_260) (by decide +kernel) ⟨(Nat.le_of_ble_eq_true rfl), (Nat.le_of_ble_eq_true rfl)⟩ ⟨(Nat.le_of_ble_eq_true rfl), (Nat.le_of_ble_eq_true rfl)⟩ (fun _ _ _ => ⟨rfl, rfl⟩) (Nat.le_of_ble_eq_true rfl) dX5_digest_159 (fun v4 u4 hp4 => ?_)
                    obtain ⟨rfl, e4⟩ := hp4
                    obtain rfl := e4.symm
                    simp only [Option.toList_some, List.cons_append, List.nil_append]
                    refine w_lstore_n h (pc := 162) dX5_digest_162 (by decide) ?_
                    refine w_lload_n h (pc := 163) dX5_digest_163 rfl ?_
                    refine w_aload_n h (pc := 164) dX5_digest_164 rfl ?_
                    refine g0_draws h (pc := 165) edr2 wm_35 dX5_digest_165 ?_
                    refine w_i2l h (pc := 168) dX5_digest_168 (by omega) ?_
                    refine w_callS2 h (pc := 169) (mX5_mix l D κ a ε u2 _ (dr : Int)) (gdS wm_258 wm_259 wm_2 wm_260) (by decide +kernel) ⟨(Nat.le_of_ble_eq_true rfl), (Nat.le_of_ble_eq_true rfl)⟩ ⟨(Nat.le_of_ble_eq_true rfl), (Nat.le_of_ble_eq_true rfl)⟩ (fun _ _ _ => ⟨rfl, rfl⟩) (Nat.le_of_ble_eq_true rfl) dX5_digest_169 (fun v5 u5 hp5 => ?_)
                    obtain ⟨rfl, e5⟩ := hp5
                    obtain rfl := e5.symm
                    simp only [Option.toList_some, List.cons_append, List.nil_append]
                    refine w_lstore_n h (pc := 172) dX5_digest_172 (by decide) ?_
                    refine w_lload_n h (pc := 173) dX5_digest_173 rfl ?_
                    refine w_aload_n h (pc := 174) dX5_digest_174 rfl ?_
                    refine g0_ended h (pc := 175) eed2 wm_36 dX5_digest_175 ?_
                    refine w_if_eq h (pc := 178) (tgt := 185) dX5_digest_178 (by decide) (by omega) (fun c178 => ?_) (fun c178 => ?_)
                    · refine w_lconst h (pc := 185) (z := 0) dX5_digest_185 (by decide) ?_
                      refine w_callS2 h (pc := 186) (mX5_mix l D κ a ε u2 _ _) (gdS wm_258 wm_259 wm_2 wm_260) (by decide +kernel) ⟨(Nat.le_of_ble_eq_true rfl), (Nat.le_of_ble_eq_true rfl)⟩ ⟨(Nat.le_of_ble_eq_true rfl), (Nat.le_of_ble_eq_true rfl)⟩ (fun _ _ _ => ⟨rfl, rfl⟩) (Nat.le_of_ble_eq_true rfl) dX5_digest_186 (fun v6 u6 hp6 => ?_)
                      obtain ⟨rfl, e6⟩ := hp6
                      obtain rfl := e6.symm
                      simp only [Option.toList_some, List.cons_append, List.nil_append]
                      exact w_lret h (pc := 189) rfl dX5_digest_189 (Nat.le_of_ble_eq_true rfl) (Nat.le_of_ble_eq_true rfl) ⟨by rcases (by omega : ed = 0 ∨ ed = 1) with rfl | rfl <;> first | (exfalso; omega) | (rw [hd]; done) | (rw [hd]; rfl), hF9⟩
                    · refine w_lconst h (pc := 181) (z := 1) dX5_digest_181 (by decide) ?_
                      refine w_goto h (pc := 182) (tgt := 186) dX5_digest_182 (by decide) ?_
                      refine w_callS2 h (pc := 186) (mX5_mix l D κ a ε u2 _ _) (gdS wm_258 wm_259 wm_2 wm_260) (by decide +kernel) ⟨(Nat.le_of_ble_eq_true rfl), (Nat.le_of_ble_eq_true rfl)⟩ ⟨(Nat.le_of_ble_eq_true rfl), (Nat.le_of_ble_eq_true rfl)⟩ (fun _ _ _ => ⟨rfl, rfl⟩) (Nat.le_of_ble_eq_true rfl) dX5_digest_186 (fun v6 u6 hp6 => ?_)
                      obtain ⟨rfl, e6⟩ := hp6
                      obtain rfl := e6.symm
                      simp only [Option.toList_some, List.cons_append, List.nil_append]
                      exact w_lret h (pc := 189) rfl dX5_digest_189 (Nat.le_of_ble_eq_true rfl) (Nat.le_of_ble_eq_true rfl) ⟨by rcases (by omega : ed = 0 ∨ ed = 1) with rfl | rfl <;> first | (exfalso; omega) | (rw [hd]; done) | (rw [hd]; rfl), hF9⟩
                  · refine w_lload_n h (pc := 107) dX5_digest_107 rfl ?_
                    refine w_aload_n h (pc := 108) dX5_digest_108 rfl ?_
                    refine w_iload_n h (pc := 109) dX5_digest_109 rfl ?_
                    refine w_iconst h (pc := 110) dX5_digest_110 ?_
                    rw [show ((j : Int) + 1) = ((j + 1 : Nat) : Int) from rfl]
                    refine w_callV2 h (pc := 111) (mX5_totalBehind0 l D κ a ε V N way num m S T w hAw (j + 1) (by omega)) 0 rfl rfl (gdV wm_275 wm_276 wm_277 wm_2 wm_278) (by decide +kernel) ⟨(Nat.le_of_ble_eq_true rfl), (Nat.le_of_ble_eq_true rfl)⟩ ⟨(Nat.le_of_ble_eq_true rfl), (Nat.le_of_ble_eq_true rfl)⟩ (fun _ _ _ => ⟨rfl, rfl⟩) (Nat.le_of_ble_eq_true rfl) dX5_digest_111 (fun v6 u6 hp6 => ?_)
                    obtain ⟨rfl, hF6⟩ := hp6
                    have hTj := hT j (by omega)
                    have hrl := rfS_le (c := ky V S ((S.length : Int) - 1) j) hTj.2 hV
                    have hkl := kd_n (c := fun w => gt (T j) (ky V S ((S.length : Int) - 1) j * 14 + w + 1)) (V + 1)
                    rw [show (j + 1 - 1) = j by omega]
                    simp only [Option.toList_some, List.cons_append, List.nil_append]
                    refine w_i2l h (pc := 114) dX5_digest_114 (by omega) ?_
                    refine w_callS2 h (pc := 115) (mX5_mix l D κ a ε u6 d (rfS (T j) (ky V S ((S.length : Int) - 1) j) V : Int)) (gdS wm_258 wm_259 wm_2 wm_260) (by decide +kernel) ⟨(Nat.le_of_ble_eq_true rfl), (Nat.le_of_ble_eq_true rfl)⟩ ⟨(Nat.le_of_ble_eq_true rfl), (Nat.le_of_ble_eq_true rfl)⟩ (fun _ _ _ => ⟨rfl, rfl⟩) (Nat.le_of_ble_eq_true rfl) dX5_digest_115 (fun v7 u7 hp7 => ?_)
                    obtain ⟨rfl, e7⟩ := hp7
                    obtain rfl := e7.symm
                    simp only [Option.toList_some, List.cons_append, List.nil_append]
                    refine w_lstore_n h (pc := 118) dX5_digest_118 (by decide) ?_
                    refine w_lload_n h (pc := 119) dX5_digest_119 rfl ?_
                    refine w_aload_n h (pc := 120) dX5_digest_120 rfl ?_
                    refine w_iload_n h (pc := 121) dX5_digest_121 rfl ?_
                    refine w_iconst h (pc := 122) dX5_digest_122 ?_
                    refine w_callV2 h (pc := 123) (mX5_totalBehind1 l D κ a ε V N way num m S T u6 (hAw.of hF6 (by simp [tS]) (by simp [tG]) (by simp) (by simp)) (j + 1) (by omega)) 0 rfl rfl (gdV wm_275 wm_276 wm_277 wm_2 wm_278) (by decide +kernel) ⟨(Nat.le_of_ble_eq_true rfl), (Nat.le_of_ble_eq_true rfl)⟩ ⟨(Nat.le_of_ble_eq_true rfl), (Nat.le_of_ble_eq_true rfl)⟩ (fun _ _ _ => ⟨rfl, rfl⟩) (Nat.le_of_ble_eq_true rfl) dX5_digest_123 (fun v8 u8 hp8 => ?_)
                    obtain ⟨rfl, hF8⟩ := hp8
                    rw [show (j + 1 - 1) = j by omega]
                    simp only [Option.toList_some, List.cons_append, List.nil_append]
                    refine w_i2l h (pc := 126) dX5_digest_126 (by omega) ?_
                    refine w_callS2 h (pc := 127) (mX5_mix l D κ a ε u8 _ (kd (fun w => gt (T j) (ky V S ((S.length : Int) - 1) j * 14 + w + 1)) (V + 1) : Int)) (gdS wm_258 wm_259 wm_2 wm_260) (by decide +kernel) ⟨(Nat.le_of_ble_eq_true rfl), (Nat.le_of_ble_eq_true rfl)⟩ ⟨(Nat.le_of_ble_eq_true rfl), (Nat.le_of_ble_eq_true rfl)⟩ (fun _ _ _ => ⟨rfl, rfl⟩) (Nat.le_of_ble_eq_true rfl) dX5_digest_127 (fun v9 u9 hp9 => ?_)
                    obtain ⟨rfl, e9⟩ := hp9
                    obtain rfl := e9.symm
                    simp only [Option.toList_some, List.cons_append, List.nil_append]
                    refine w_lstore_n h (pc := 130) dX5_digest_130 (by decide) ?_
                    refine w_iinc h (pc := 131) dX5_digest_131 rfl (by decide) ?_
                    refine w_goto h (pc := 134) (tgt := 96) dX5_digest_134 (by decide) ?_
                    exact WW.sub (by rfl) (ih (j + 1) _ _ (by omega) (by omega) ((hF.tr hF6).tr hF8) (by show _ = (fl _ j _ * 31 + _) * 31 + _; rw [← hd]; rfl))
              exact WW.sub (by rfl) (lp96 (N + 1) 0 d u (by omega) (by omega) Fr.rfl (by rw [hd]; rfl))
            · refine w_aload_n h (pc := 81) dX5_digest_81 rfl ?_
              refine w_lload_n h (pc := 82) dX5_digest_82 rfl ?_
              refine w_iload_n h (pc := 83) dX5_digest_83 rfl ?_
              rw [show ((j : Int) + 1) = ((j + 1 : Nat) : Int) from rfl]
              refine w_callV2 h (pc := 84) (mX5_mixEntries l D κ a ε V N way num m S T u hA (j + 1) (by omega) d) 0 rfl rfl (gdV wm_262 wm_263 wm_264 wm_2 wm_265) (by decide +kernel) ⟨(Nat.le_of_ble_eq_true rfl), (Nat.le_of_ble_eq_true rfl)⟩ ⟨(Nat.le_of_ble_eq_true rfl), (Nat.le_of_ble_eq_true rfl)⟩ (fun _ _ _ => ⟨rfl, rfl⟩) (Nat.le_of_ble_eq_true rfl) dX5_digest_84 (fun v5 u5 hp5 => ?_)
              obtain ⟨rfl, e5⟩ := hp5
              obtain rfl := e5.symm
              simp only [Option.toList_some, List.cons_append, List.nil_append]
              refine w_lstore_n h (pc := 87) dX5_digest_87 (by decide) ?_
              refine w_iinc h (pc := 88) dX5_digest_88 rfl (by decide) ?_
              refine w_goto h (pc := 91) (tgt := 70) dX5_digest_91 (by decide) ?_
              exact WW.sub (by rfl) (ih (j + 1) _ (by omega) (by omega) (by show _ = mxE _ _ (fl _ j _); rw [← hd]; rfl))
        exact WW.sub (by rfl) (lp70 (N + 1) 0 d (by omega) (by omega) (by rw [hd]; rfl))
      · obtain ⟨w, hw⟩ : ∃ w, S[j]? = some w := ⟨S[j]'(by omega), List.getElem?_eq_getElem (by omega)⟩
        have hwV := hSV w (List.mem_of_getElem? hw)
        refine w_lload_n h (pc := 50) dX5_digest_50 rfl ?_
        refine w_aload_n h (pc := 51) dX5_digest_51 rfl ?_
        refine g0_sentence h (pc := 52) wm_32 dX5_digest_52 ?_
        refine w_iload_n h (pc := 55) dX5_digest_55 rfl ?_
        refine ld_sentence h (pc := 56) (by omega) (hS j w hw) dX5_digest_56 ?_
        refine w_i2l h (pc := 57) dX5_digest_57 (by omega) ?_
        refine w_callS2 h (pc := 58) (mX5_mix l D κ a ε u d (w : Int)) (gdS wm_258 wm_259 wm_2 wm_260) (by decide +kernel) ⟨(Nat.le_of_ble_eq_true rfl), (Nat.le_of_ble_eq_true rfl)⟩ ⟨(Nat.le_of_ble_eq_true rfl), (Nat.le_of_ble_eq_true rfl)⟩ (fun _ _ _ => ⟨rfl, rfl⟩) (Nat.le_of_ble_eq_true rfl) dX5_digest_58 (fun v4 u4 hp4 => ?_)
        obtain ⟨rfl, e4⟩ := hp4
        obtain rfl := e4.symm
        simp only [Option.toList_some, List.cons_append, List.nil_append]
        refine w_lstore_n h (pc := 61) dX5_digest_61 (by decide) ?_
        refine w_iinc h (pc := 62) dX5_digest_62 rfl (by decide) ?_
        refine w_goto h (pc := 65) (tgt := 42) dX5_digest_65 (by decide) ?_
        exact WW.sub (by rfl) (ih (j + 1) _ (by omega) (by omega) (by show _ = fl _ j _ * 31 + _; rw [← hd, getD_n hw]))
  exact WW.sub (by rfl) (lp42 (S.length + 1) 0 _ (by omega) (by omega) rfl)

set_option maxHeartbeats 4000000 in
set_option maxRecDepth 100000 in
theorem mX5_runScript (l : Launch) (D : va_G) (κ a : Nat → Nat) (ε : Nat) (V N way num m : Nat) (S : List Nat) (T : Nat → List (Nat × Nat)) (u : US) (hA : AB V N way num m S T u) (hV1 : 1 ≤ V) (hl9 : S.length < 12) (lk9 dr : Nat) (hlk : lk9 < 10000) (elk : u.1 1 = (lk9 : Int)) (edr : u.1 2 = (dr : Int)) (e11 : u.1 11 = 1) (e15 : u.2 15 0 = 3) (e16 : u.2 16 0 = 1) : Ct (W0 κ a) l D κ ε yX5_runScript cX5_runScript 3 (some .int) 6 139 0 0 u [.ref (a 0)] (fun v u' => (fw (chz V N way num S T (S.length : Int)) V 0 = V ∧ v = some (.int (iI (S.length : Int))) ∧ u'.1 3 = 1 ∧ AB V N way num m S T u') ∨ (fw (chz V N way num S T (S.length : Int)) V 0 < V ∧ v = some (.int (iI ((S.length + 1 : Nat) : Int))) ∧ u'.1 3 = 0 ∧ AB V N way num m (S ++ [fw (chz V N way num S T (S.length : Int)) V 0]) T u')) := by
  obtain ⟨⟨hV, hN, hway, hnum, hm, hSl, hSV⟩, eV, eN, ew, en, ⟨eS, hS⟩, hT⟩ := id hA
  refine Ct.of (own := RX5) rfl (by decide +kernel) (Nat.le_of_ble_eq_true rfl) rfl (fun Γ h => ?_)
  refine w_aload_n h (pc := 0) dX5_runScript_0 rfl ?_
  refine g0_ledger h (pc := 1) wm_16 dX5_runScript_1 ?_
  refine g1_words h (pc := 4) eV wm_113 dX5_runScript_4 ?_
  refine w_if_eq h (pc := 7) (tgt := 20) dX5_runScript_7 (by decide) (by omega) (fun c7 => by exfalso; omega) (fun c7 => ?_)
  refine w_aload_n h (pc := 10) dX5_runScript_10 rfl ?_
  refine g0_script h (pc := 11) wm_28 dX5_runScript_11 ?_
  refine g4_size h (pc := 14) e11 wm_486 dX5_runScript_14 ?_
  refine w_if_ne h (pc := 17) (tgt := 30) dX5_runScript_17 (by decide) (by omega) (fun c17 => ?_) (fun c17 => by exfalso; omega)
  refine w_aload_n h (pc := 30) dX5_runScript_30 rfl ?_
  refine w_iconst h (pc := 31) dX5_runScript_31 ?_
  refine p0_ended h (pc := 32) (by omega) wm_36 dX5_runScript_32 ?_
  refine w_aload_n h (pc := 35) dX5_runScript_35 rfl ?_
  refine g0_script h (pc := 36) wm_28 dX5_runScript_36 ?_
  refine w_callV0 h (pc := 39) (mX2_forgetReturns l D κ a ε (uS u 3 0)) 4 rfl rfl (gdV wm_501 wm_502 wm_503 wm_27 wm_504) (by decide +kernel) ⟨(Nat.le_of_ble_eq_true rfl), (Nat.le_of_ble_eq_true rfl)⟩ ⟨(Nat.le_of_ble_eq_true rfl), (Nat.le_of_ble_eq_true rfl)⟩ (fun _ _ _ => ⟨rfl, rfl⟩) (Nat.le_of_ble_eq_true rfl) dX5_runScript_39 (fun v1 w hp1 => ?_)
  obtain ⟨rfl, hF1⟩ := hp1
  have hAw := (hA.of (Fr.S (ls := [3]) (gs := []) (v := 0) (by simp)) (by simp [tS]) (by simp [tG]) (by simp) (by simp)).of hF1 (by simp [tS]) (by simp [tG]) (by simp) (by simp)
  have e3w : w.1 3 = 0 := hF1.1 3 (by simp)
  have e11w : w.1 11 = 1 := (hF1.1 11 (by simp)).trans e11
  have eSw := hAw.2.2.2.2.2.1.1
  have e15w : w.2 15 0 = 3 := (congrFun (hF1.2 15 (by simp)) 0).trans e15
  have e16w : w.2 16 0 = 1 := (congrFun (hF1.2 16 (by simp)) 0).trans e16
  have elkw : w.1 1 = (lk9 : Int) := (hF1.1 1 (by simp)).trans elk
  have edrw : w.1 2 = (dr : Int) := (hF1.1 2 (by simp)).trans edr
  simp only [Option.toList_none, List.nil_append]
  refine w_iconst h (pc := 42) dX5_runScript_42 ?_
  refine w_istore_n h (pc := 43) dX5_runScript_43 (by decide) ?_
  refine w_iconst h (pc := 44) dX5_runScript_44 ?_
  refine w_istore_n h (pc := 45) dX5_runScript_45 (by decide) ?_
  refine w_iload_n h (pc := 46) dX5_runScript_46 rfl ?_
  refine w_ldc h (pc := 47) (z := 1000000) dX5_runScript_47 wm_345 (by decide) ?_
  refine w_icmp_ge h (pc := 49) (tgt := 138) dX5_runScript_49 (by decide) (by omega) (by omega) (fun c49 => by exfalso; omega) (fun c49 => ?_)
  refine w_iload_n h (pc := 52) dX5_runScript_52 rfl ?_
  refine w_aload_n h (pc := 53) dX5_runScript_53 rfl ?_
  refine g0_script h (pc := 54) wm_28 dX5_runScript_54 ?_
  refine g4_size h (pc := 57) (by first | exact e11w | exact e11x) wm_486 dX5_runScript_57 ?_
  refine w_icmp_ge h (pc := 60) (tgt := 138) dX5_runScript_60 (by decide) (by omega) (by omega) (fun c60 => by exfalso; omega) (fun c60 => ?_)
  refine w_aload_n h (pc := 63) dX5_runScript_63 rfl ?_
  refine g0_ended h (pc := 64) e3w wm_36 dX5_runScript_64 ?_
  refine w_if_ne h (pc := 67) (tgt := 138) dX5_runScript_67 (by decide) (by omega) (fun c67 => by exfalso; omega) (fun c67 => ?_)
  refine w_aload_n h (pc := 70) dX5_runScript_70 rfl ?_
  refine g0_length h (pc := 71) eSw wm_33 dX5_runScript_71 ?_
  refine w_bipush h (pc := 74) dX5_runScript_74 (by decide) ?_
  refine w_icmp_lt h (pc := 76) (tgt := 82) dX5_runScript_76 (by decide) (by omega) (by omega) (fun c76 => ?_) (fun c76 => by exfalso; omega)
  refine w_aload_n h (pc := 82) dX5_runScript_82 rfl ?_
  refine g0_script h (pc := 83) wm_28 dX5_runScript_83 ?_
  refine g4_codes h (pc := 86) wm_499 dX5_runScript_86 ?_
  refine w_iload_n h (pc := 89) dX5_runScript_89 rfl ?_
  refine ld_codes h (pc := 90) (by omega) e15w dX5_runScript_90 ?_
  refine w_iconst h (pc := 91) dX5_runScript_91 ?_
  refine w_icmp_ne h (pc := 92) (tgt := 107) dX5_runScript_92 (by decide) (by omega) (by omega) (fun c92 => ?_) (fun c92 => by exfalso; omega)
  refine w_aload_n h (pc := 107) dX5_runScript_107 rfl ?_
  refine w_aload_n h (pc := 108) dX5_runScript_108 rfl ?_
  refine g0_script h (pc := 109) wm_28 dX5_runScript_109 ?_
  refine g4_codes h (pc := 112) wm_499 dX5_runScript_112 ?_
  refine w_iload_n h (pc := 115) dX5_runScript_115 rfl ?_
  refine ld_codes h (pc := 116) (by omega) e15w dX5_runScript_116 ?_
  refine w_aload_n h (pc := 117) dX5_runScript_117 rfl ?_
  refine g0_script h (pc := 118) wm_28 dX5_runScript_118 ?_
  refine g4_numbers h (pc := 121) wm_500 dX5_runScript_121 ?_
  refine w_iload_n h (pc := 124) dX5_runScript_124 rfl ?_
  refine ld_numbers h (pc := 125) (by omega) e16w dX5_runScript_125 ?_
  refine w_callV2 h (pc := 126) (mX5_takeByStep l D κ a ε V N way num m S T w hAw lk9 dr 0 hlk elkw edrw e3w hl9) 0 rfl rfl (gdV wm_510 wm_511 wm_512 wm_2 wm_513) (by decide +kernel) ⟨(Nat.le_of_ble_eq_true rfl), (Nat.le_of_ble_eq_true rfl)⟩ ⟨(Nat.le_of_ble_eq_true rfl), (Nat.le_of_ble_eq_true rfl)⟩ (fun _ _ _ => ⟨rfl, rfl⟩) (Nat.le_of_ble_eq_true rfl) dX5_runScript_126 (fun v2 u2 hp2 => ?_)
  obtain ⟨rfl, hk2, hres⟩ := hp2
  have e11x : u2.1 11 = 1 := (hk2 11 (by omega)).trans e11w
  obtain ⟨L9, hL9, hLc⟩ : ∃ L9 : Nat, u2.1 0 = (L9 : Int) ∧ ((fw (chz V N way num S T (S.length : Int)) V 0 = V ∧ L9 = S.length) ∨ (fw (chz V N way num S T (S.length : Int)) V 0 < V ∧ L9 = S.length + 1)) := by
    rcases hres with ⟨q, -, h9⟩ | ⟨q, -, h9⟩
    · exact ⟨_, h9.2.2.2.2.2.1.1, Or.inl ⟨q, rfl⟩⟩
    · exact ⟨_, h9.2.2.2.2.2.1.1, Or.inr ⟨q, by rw [List.length_append]; rfl⟩⟩
  simp only [Option.toList_none, List.nil_append]
  refine w_iinc h (pc := 129) dX5_runScript_129 rfl (by decide) ?_
  refine w_iinc h (pc := 132) dX5_runScript_132 rfl (by decide) ?_
  refine w_goto h (pc := 135) (tgt := 46) dX5_runScript_135 (by decide) ?_
  refine w_iload_n h (pc := 46) dX5_runScript_46 rfl ?_
  refine w_ldc h (pc := 47) (z := 1000000) dX5_runScript_47 wm_345 (by decide) ?_
  refine w_icmp_ge h (pc := 49) (tgt := 138) dX5_runScript_49 (by decide) (by omega) (by omega) (fun c49 => by exfalso; omega) (fun c49 => ?_)
  refine w_iload_n h (pc := 52) dX5_runScript_52 rfl ?_
  refine w_aload_n h (pc := 53) dX5_runScript_53 rfl ?_
  refine g0_script h (pc := 54) wm_28 dX5_runScript_54 ?_
  refine g4_size h (pc := 57) (by first | exact e11w | exact e11x) wm_486 dX5_runScript_57 ?_
  refine w_icmp_ge h (pc := 60) (tgt := 138) dX5_runScript_60 (by decide) (by omega) (by omega) (fun c60 => ?_) (fun c60 => by exfalso; omega)
  refine w_aload_n h (pc := 138) dX5_runScript_138 rfl ?_
  refine g0_length h (pc := 139) hL9 wm_33 dX5_runScript_139 ?_
  rcases hres with ⟨q, r3, h9⟩ | ⟨q, r3, h9⟩
  · obtain rfl : L9 = S.length := by omega
    exact w_iret h (pc := 142) (ty := .int) rfl rfl dX5_runScript_142 (Nat.le_of_ble_eq_true rfl) (Nat.le_of_ble_eq_true rfl) (Or.inl ⟨q, rfl, r3, h9⟩)
  · obtain rfl : L9 = S.length + 1 := by omega
    exact w_iret h (pc := 142) (ty := .int) rfl rfl dX5_runScript_142 (Nat.le_of_ble_eq_true rfl) (Nat.le_of_ble_eq_true rfl) (Or.inr ⟨q, rfl, r3, h9⟩)
end
section
/-! the seeking of the best words: pure -/
/-- the first of the least of the first n -/
def am (f : Nat → Nat) : Nat → Nat
  | 0 => 0
  | n + 1 => if n = 0 ∨ f n < f (am f n) then n else am f n
theorem am_lt {f : Nat → Nat} : ∀ {n : Nat}, 0 < n → am f n < n
  | 0, h => absurd h (Nat.lt_irrefl 0)
  | n + 1, _ => by
    unfold am
    split
    · omega
    · rename_i q
      have := am_lt (f := f) (n := n) (by omega)
      omega
theorem am_le {f : Nat → Nat} : ∀ {n w : Nat}, w < n → f (am f n) ≤ f w
  | 0, w, h => absurd h (Nat.not_lt_zero w)
  | n + 1, w, h => by
    unfold am
    split
    · rename_i q
      rcases Nat.lt_or_ge w n with z | z
      · rcases q with q | q
        · omega
        · have := am_le (f := f) z
          omega
      · have : w = n := by omega
        subst this; exact Nat.le_refl _
    · rename_i q
      rcases Nat.lt_or_ge w n with z | z
      · exact am_le z
      · have : w = n := by omega
        subst this
        omega
/-- the key that a state stands for: its words, the last ones lowest -/
def kof (V s : Nat) : Nat → Nat
  | 0 => 0
  | n + 1 => kof V s n + (s / V ^ n % V + 1) * p14 n
theorem kof_lt {V s : Nat} (hV : 1 ≤ V ∧ V ≤ 12) : ∀ n : Nat, kof V s n < 14 ^ n
  | 0 => by unfold kof; omega
  | n + 1 => by
    unfold kof
    have h1 := kof_lt (s := s) hV n
    have h2 : s / V ^ n % V < V := Nat.mod_lt _ hV.1
    have h3 : (s / V ^ n % V + 1) * 14 ^ n ≤ 12 * 14 ^ n := Nat.mul_le_mul_right _ (by omega)
    unfold p14
    rw [Nat.pow_succ]
    omega
def kyAt (V N c ch s : Nat) : Nat := c % p14 (N - 1 - ch) * p14 ch + kof V s ch
def stN (V N d : Nat) : Nat := V ^ min d (N - 1)
def nx (V N d s w : Nat) : Nat := (s * V + w) % stN V N (d + 1)
section SEEK
variable (V N : Nat) (Cc : Nat → Nat → Nat → Nat) (more : Nat)
/-- the least cost from a state on, k words before the end -/
def Lr : Nat → Nat → Nat
  | 0, s => Cc (min more (N - 1)) s V
  | k + 1, s => Cc (min (more - k - 1) (N - 1)) s (am (fun w => Cc (min (more - k - 1) (N - 1)) s w + Lr k (nx V N (more - k - 1) s w)) V) + Lr k (nx V N (more - k - 1) s (am (fun w => Cc (min (more - k - 1) (N - 1)) s w + Lr k (nx V N (more - k - 1) s w)) V))
def chD (d s : Nat) : Nat := am (fun w => Cc (min d (N - 1)) s w + Lr V N Cc more (more - d - 1) (nx V N d s w)) V
/-- what the words ws cost from a state on -/
def tc : Nat → Nat → List Nat → Nat
  | d, s, [] => Cc (min d (N - 1)) s V
  | d, s, w :: ws => Cc (min d (N - 1)) s w + tc (d + 1) (nx V N d s w) ws
/-- the words that are chosen -/
def cw : Nat → Nat → Nat → List Nat
  | 0, _, _ => []
  | k + 1, d, s => chD V N Cc more d s :: cw k (d + 1) (nx V N d s (chD V N Cc more d s))
theorem cw_len : ∀ k d s : Nat, (cw V N Cc more k d s).length = k
  | 0, _, _ => rfl
  | k + 1, d, s => by show (_ :: _).length = _; rw [List.length_cons, cw_len k]
theorem cw_lt (hV : 0 < V) : ∀ k d s : Nat, ∀ w ∈ cw V N Cc more k d s, w < V
  | 0, _, _, w, h => absurd h List.not_mem_nil
  | k + 1, d, s, w, h => by
    rcases List.mem_cons.mp h with e | e
    · rw [e]; exact am_lt hV
    · exact cw_lt hV k _ _ w e
theorem Lr_s (k s : Nat) : Lr V N Cc more (k + 1) s = Cc (min (more - k - 1) (N - 1)) s (am (fun w => Cc (min (more - k - 1) (N - 1)) s w + Lr V N Cc more k (nx V N (more - k - 1) s w)) V) + Lr V N Cc more k (nx V N (more - k - 1) s (am (fun w => Cc (min (more - k - 1) (N - 1)) s w + Lr V N Cc more k (nx V N (more - k - 1) s w)) V)) := rfl
theorem Lr_le : ∀ (ws : List Nat) (d s : Nat), d + ws.length = more → (∀ w ∈ ws, w < V) → Lr V N Cc more ws.length s ≤ tc V N Cc d s ws
  | [], d, s, hd, _ => by
    have : d = more := by simpa using hd
    subst this
    exact Nat.le_refl _
  | w :: ws, d, s, hd, hw => by
    rw [List.length_cons] at hd
    show Lr V N Cc more (ws.length + 1) s ≤ Cc (min d (N - 1)) s w + tc V N Cc (d + 1) (nx V N d s w) ws
    have e : more - ws.length - 1 = d := by omega
    have h1 := Lr_le ws (d + 1) (nx V N d s w) (by omega) (fun z hz => hw z (List.mem_cons_of_mem _ hz))
    have h2 := am_le (f := fun w => Cc (min d (N - 1)) s w + Lr V N Cc more ws.length (nx V N d s w)) (hw w List.mem_cons_self)
    rw [Lr_s, e]
    omega
theorem Lr_eq : ∀ (k d s : Nat), d + k = more → Lr V N Cc more k s = tc V N Cc d s (cw V N Cc more k d s)
  | 0, d, s, hd => by
    have : d = more := by omega
    subst this
    rfl
  | k + 1, d, s, hd => by
    show _ = Cc (min d (N - 1)) s (chD V N Cc more d s) + tc V N Cc (d + 1) (nx V N d s (chD V N Cc more d s)) (cw V N Cc more k (d + 1) (nx V N d s (chD V N Cc more d s)))
    rw [← Lr_eq k (d + 1) _ (by omega)]
    rw [Lr_s]
    unfold chD
    rw [show more - k - 1 = d by omega, show more - d - 1 = k by omega]
/-- no words are better than the chosen ones -/
theorem cw_best (ws : List Nat) (h : ws.length = more) (hw : ∀ w ∈ ws, w < V) : tc V N Cc 0 0 (cw V N Cc more more 0 0) ≤ tc V N Cc 0 0 ws := by
  rw [← Lr_eq V N Cc more more 0 0 (by omega)]
  have := Lr_le V N Cc more ws 0 0 (by omega) hw
  rwa [h] at this
end SEEK
theorem dg_pre {V : Nat} {S ws : List Nat} {z : Int} (h : z < (S.length : Int)) : dg V (S ++ ws) z = dg V S z := by
  unfold dg
  split
  · rfl
  · rw [List.getElem?_append_left (by omega)]
def dgn (V : Nat) (o : Option Nat) : Nat := match o with
  | some w => w + 1
  | none => V + 1
theorem dg_nth {V : Nat} {S ws : List Nat} {i : Nat} : dg V (S ++ ws) ((S.length + i : Nat) : Int) = dgn V ws[i]? := by
  unfold dg
  rw [if_neg (by omega), Int.toNat_natCast, List.getElem?_append_right (by omega), show S.length + i - S.length = i by omega]
  generalize ws[i]? = o
  cases o <;> rfl
theorem ky_pre {V : Nat} {S ws : List Nat} : ∀ (n : Nat) {z : Int}, z < (S.length : Int) → ky V (S ++ ws) z n = ky V S z n
  | 0, _, _ => rfl
  | n + 1, z, h => by
    show ky V (S ++ ws) (z - 1) n * 14 + dg V (S ++ ws) z = ky V S (z - 1) n * 14 + dg V S z
    rw [ky_pre n (by omega), dg_pre h]
theorem mod_s {a q b : Nat} (hb : b < 14) (hq : 0 < q) : (a * 14 + b) % (q * 14) = a % q * 14 + b := by
  have h1 := Nat.div_add_mod a q
  have h2 := Nat.mod_lt a hq
  have e : a * 14 + b = (a % q * 14 + b) + (q * 14) * (a / q) := by
    have : q * (a / q) * 14 = q * 14 * (a / q) := by rw [Nat.mul_assoc, Nat.mul_comm (a / q), ← Nat.mul_assoc]
    omega
  rw [e, Nat.add_mul_mod_self_left, Nat.mod_eq_of_lt]
  have : a % q * 14 + 14 ≤ q * 14 := by omega
  omega
theorem ky_cut {V : Nat} {S : List Nat} (hV : V ≤ 12) (hS : ∀ w ∈ S, w < V) : ∀ (n m : Nat) (z : Int), m ≤ n → ky V S z n % 14 ^ m = ky V S z m
  | n, 0, z, _ => by rw [Nat.pow_zero, Nat.mod_one]; rfl
  | 0, m + 1, z, h => absurd h (by omega)
  | n + 1, m + 1, z, h => by
    have h2 := dg_le hS z
    show (ky V S (z - 1) n * 14 + dg V S z) % 14 ^ (m + 1) = ky V S (z - 1) m * 14 + dg V S z
    rw [Nat.pow_succ, mod_s (by omega) (Nat.pow_pos (by omega)), ky_cut hV hS n m _ (by omega)]
end
section
/-- the cost of a word (or the END) in a state -/
def CcF (V N way num : Nat) (T : Nat → List (Nat × Nat)) (c : Nat) : Nat → Nat → Nat → Nat := fun ch s w => co (chs way num V N (fun n => T (n - 1)) (fun n => T (n + 3)) N (kyAt V N c ch s) w)
def c0 (V N : Nat) (S : List Nat) : Nat := ky V S ((S.length : Int) - 1) (N - 1)
section SCORE
variable {V N way num m : Nat} {S : List Nat} {T : Nat → List (Nat × Nat)}
theorem cz_pre {ws : List Nat} {j : Nat} (h : j < S.length) : cz V N way num (S ++ ws) T j = cz V N way num S T j := by
  unfold cz chz
  rw [dg_pre (by omega), ky_pre _ (by omega)]
theorem len_app (ws : List Nat) : (S ++ ws).length = S.length + ws.length := List.length_append
/-- the key behind the first i of the words ws -/
def kb (V N : Nat) (S ws : List Nat) (i : Nat) : Nat := ky V (S ++ ws) (((S.length + i : Nat) : Int) - 1) (N - 1)
theorem scr_split (ws : List Nat) : scr V N way num (S ++ ws) T = sm (cz V N way num S T) S.length + sm (fun i => co (chs way num V N (fun n => T (n - 1)) (fun n => T (n + 3)) N (kb V N S ws i) ((dgn V ws[i]?) - 1))) (ws.length + 1) := by
  unfold scr
  rw [len_app]
  have h1 : ∀ k : Nat, sm (cz V N way num (S ++ ws) T) (S.length + k) = sm (cz V N way num S T) S.length + sm (fun i => co (chs way num V N (fun n => T (n - 1)) (fun n => T (n + 3)) N (kb V N S ws i) ((dgn V ws[i]?) - 1))) k := by
    intro k
    induction k with
    | zero => exact sm_cg fun i hi => cz_pre hi
    | succ k ih =>
      rw [show S.length + (k + 1) = (S.length + k) + 1 by omega, sm_s, ih, sm_s]
      have e : cz V N way num (S ++ ws) T (S.length + k) = co (chs way num V N (fun n => T (n - 1)) (fun n => T (n + 3)) N (kb V N S ws k) ((dgn V ws[k]?) - 1)) := by
        unfold cz chz kb
        rw [dg_nth]
      rw [e]
      omega
  exact h1 (ws.length + 1)
theorem kb_0 (hV : 1 ≤ V ∧ V ≤ 12) (hN : 1 ≤ N ∧ N ≤ 4) (hS : ∀ w ∈ S, w < V) (ws : List Nat) : kb V N S ws 0 = kyAt V N (c0 V N S) (min 0 (N - 1)) 0 := by
  unfold kb kyAt c0
  rw [Nat.zero_min, ky_pre _ (by omega), Nat.sub_zero]
  show _ = ky V S _ (N - 1) % p14 (N - 1) * p14 0 + 0
  unfold p14
  rw [ky_cut hV.2 hS _ _ _ (Nat.le_refl _), Nat.pow_zero, Nat.mul_one, Nat.add_zero, Nat.add_zero]
theorem kb_1 (hV : 1 ≤ V ∧ V ≤ 12) (hN : 1 ≤ N ∧ N ≤ 4) (hS : ∀ w ∈ S, w < V) {w1 : Nat} (hw : w1 < V) (ws : List Nat) : kb V N S (w1 :: ws) 1 = kyAt V N (c0 V N S) (min 1 (N - 1)) (nx V N 0 0 w1) := by
  unfold kb
  rcases (by omega : N = 1 ∨ 2 ≤ N) with e | e
  · subst e
    unfold kyAt
    show 0 = _ % _ * _ + 0
    unfold p14 c0
    show 0 = ky V S _ 0 % 1 * 1 + 0
    omega
  · obtain ⟨n, rfl⟩ : ∃ n, N = n + 2 := ⟨N - 2, by omega⟩
    have e1 : min 1 (n + 2 - 1) = 1 := by omega
    have e2 : nx V (n + 2) 0 0 w1 = w1 := by
      unfold nx stN
      rw [show min (0 + 1) (n + 2 - 1) = 1 by omega, Nat.pow_one, Nat.zero_mul, Nat.zero_add, Nat.mod_eq_of_lt hw]
    rw [e1, e2]
    unfold kyAt kof kof c0
    show ky V (S ++ w1 :: ws) (((S.length + 1 : Nat) : Int) - 1 - 1) n * 14 + dg V (S ++ w1 :: ws) (((S.length + 1 : Nat) : Int) - 1) = _
    rw [show ((S.length + 1 : Nat) : Int) - 1 = ((S.length + 0 : Nat) : Int) by omega, dg_nth, ky_pre _ (by omega)]
    show _ + (w1 + 1) = _
    rw [show n + 2 - 1 - 1 = n by omega, show n + 2 - 1 = n + 1 by omega]
    unfold p14
    rw [ky_cut hV.2 hS _ _ _ (by omega), Nat.pow_one, Nat.pow_zero, Nat.pow_zero, Nat.div_one, Nat.mod_eq_of_lt hw, Nat.add_zero]
    omega
theorem kb_2 (hV : 1 ≤ V ∧ V ≤ 12) (hN : 1 ≤ N ∧ N ≤ 4) (hS : ∀ w ∈ S, w < V) {w1 w2 : Nat} (hw : w1 < V) (hw2 : w2 < V) : kb V N S [w1, w2] 2 = kyAt V N (c0 V N S) (min 2 (N - 1)) (nx V N 1 (nx V N 0 0 w1) w2) := by
  unfold kb
  have d2 : dg V (S ++ [w1, w2]) (((S.length + 2 : Nat) : Int) - 1) = w2 + 1 := by
    rw [show ((S.length + 2 : Nat) : Int) - 1 = ((S.length + 1 : Nat) : Int) by omega, dg_nth]
    rfl
  have d1 : dg V (S ++ [w1, w2]) (((S.length + 2 : Nat) : Int) - 1 - 1) = w1 + 1 := by
    rw [show ((S.length + 2 : Nat) : Int) - 1 - 1 = ((S.length + 0 : Nat) : Int) by omega, dg_nth]
    rfl
  rcases (by omega : N = 1 ∨ N = 2 ∨ 3 ≤ N) with e | e | e
  · subst e
    unfold kyAt
    show 0 = _ % _ * _ + 0
    unfold p14 c0
    show 0 = ky V S _ 0 % 1 * 1 + 0
    omega
  · subst e
    have e2 : nx V 2 1 (nx V 2 0 0 w1) w2 = w2 := by
      unfold nx stN
      show ((0 * V + w1) % V ^ 1 * V + w2) % V ^ 1 = w2
      rw [Nat.pow_one, Nat.mul_comm _ V, Nat.mul_add_mod, Nat.mod_eq_of_lt hw2]
    rw [e2]
    show 0 * 14 + dg V (S ++ [w1, w2]) (((S.length + 2 : Nat) : Int) - 1) = _
    rw [d2]
    unfold kyAt kof kof c0 p14
    show _ = ky V S _ 1 % 1 * 14 ^ 1 + (0 + (w2 / V ^ 0 % V + 1) * 14 ^ 0)
    rw [Nat.mod_one, Nat.pow_zero, Nat.div_one, Nat.mod_eq_of_lt hw2]
    omega
  · obtain ⟨n, rfl⟩ : ∃ n, N = n + 3 := ⟨N - 3, by omega⟩
    have e1 : min 2 (n + 3 - 1) = 2 := by omega
    have e2 : nx V (n + 3) 1 (nx V (n + 3) 0 0 w1) w2 = w1 * V + w2 := by
      unfold nx stN
      rw [show min (0 + 1) (n + 3 - 1) = 1 by omega, show min (1 + 1) (n + 3 - 1) = 2 by omega, Nat.pow_one, Nat.zero_mul, Nat.zero_add, Nat.mod_eq_of_lt hw, Nat.mod_eq_of_lt]
      have : (w1 + 1) * V ≤ V * V := Nat.mul_le_mul_right _ hw
      rw [Nat.pow_two]
      rw [Nat.succ_mul] at this
      omega
    rw [e1, e2]
    have q1 : (w1 * V + w2) % V = w2 := by rw [Nat.mul_comm, Nat.mul_add_mod, Nat.mod_eq_of_lt hw2]
    have q2 : (w1 * V + w2) / V % V = w1 := by
      rw [Nat.mul_comm, Nat.mul_add_div (by omega), Nat.div_eq_of_lt hw2, Nat.add_zero, Nat.mod_eq_of_lt hw]
    show (ky V (S ++ [w1, w2]) (((S.length + 2 : Nat) : Int) - 1 - 1 - 1) n * 14 + dg V (S ++ [w1, w2]) (((S.length + 2 : Nat) : Int) - 1 - 1)) * 14 + dg V (S ++ [w1, w2]) (((S.length + 2 : Nat) : Int) - 1) = _
    rw [d1, d2, ky_pre _ (by omega)]
    unfold kyAt kof kof kof c0 p14
    rw [show n + 3 - 1 - 2 = n by omega, show n + 3 - 1 = n + 2 by omega, ky_cut hV.2 hS _ _ _ (by omega), Nat.pow_zero, Nat.div_one, Nat.pow_one, q1, q2, show ((S.length + 2 : Nat) : Int) - 1 - 1 - 1 = (S.length : Int) - 1 by omega]
    show _ = _ * 196 + (0 + (w2 + 1) * 1 + (w1 + 1) * 14 ^ 1)
    omega
/-- the score behind the words ws: what stands already, and their cost -/
theorem scr_tc (hV : 1 ≤ V ∧ V ≤ 12) (hN : 1 ≤ N ∧ N ≤ 4) (hS : ∀ w ∈ S, w < V) : ∀ (ws : List Nat), ws.length ≤ 2 → (∀ w ∈ ws, w < V) → scr V N way num (S ++ ws) T = sm (cz V N way num S T) S.length + tc V N (CcF V N way num T (c0 V N S)) 0 0 ws
  | [], _, _ => by
    rw [scr_split]
    show _ + (0 + co (chs way num V N _ _ N (kb V N S [] 0) (V + 1 - 1))) = _ + CcF V N way num T (c0 V N S) (min 0 (N - 1)) 0 V
    rw [kb_0 hV hN hS]
    unfold CcF
    rw [show V + 1 - 1 = V by omega, Nat.zero_add]
  | [w1], _, hw => by
    rw [scr_split]
    show _ + (0 + co (chs way num V N _ _ N (kb V N S [w1] 0) (w1 + 1 - 1)) + co (chs way num V N _ _ N (kb V N S [w1] 1) (V + 1 - 1))) = _ + (CcF V N way num T (c0 V N S) (min 0 (N - 1)) 0 w1 + CcF V N way num T (c0 V N S) (min 1 (N - 1)) (nx V N 0 0 w1) V)
    rw [kb_0 hV hN hS, kb_1 hV hN hS (hw w1 List.mem_cons_self)]
    unfold CcF
    rw [show V + 1 - 1 = V by omega, show w1 + 1 - 1 = w1 by omega, Nat.zero_add]
  | [w1, w2], _, hw => by
    have h1 := hw w1 List.mem_cons_self
    have h2 := hw w2 (List.mem_cons_of_mem _ List.mem_cons_self)
    rw [scr_split]
    show _ + (0 + co (chs way num V N _ _ N (kb V N S [w1, w2] 0) (w1 + 1 - 1)) + co (chs way num V N _ _ N (kb V N S [w1, w2] 1) (w2 + 1 - 1)) + co (chs way num V N _ _ N (kb V N S [w1, w2] 2) (V + 1 - 1))) = _ + (CcF V N way num T (c0 V N S) (min 0 (N - 1)) 0 w1 + (CcF V N way num T (c0 V N S) (min 1 (N - 1)) (nx V N 0 0 w1) w2 + CcF V N way num T (c0 V N S) (min 2 (N - 1)) (nx V N 1 (nx V N 0 0 w1) w2) V))
    rw [kb_0 hV hN hS, kb_1 hV hN hS h1, kb_2 hV hN hS h1 h2]
    unfold CcF
    rw [show V + 1 - 1 = V by omega, show w1 + 1 - 1 = w1 by omega, show w2 + 1 - 1 = w2 by omega]
    omega
  | _ :: _ :: _ :: _, h, _ => absurd h (by simp)
end SCORE
end
section
section R2
variable {S : Type} {Wx : S → va_W × Nat × Nat} {l : Launch} {D : va_G} {κ : Nat → Nat} {ε : Nat} {own : String} {cc : ByteArray} {mL : Nat} {ret : Option FieldType} {R : Room} {post : Option Value → S → Prop} {Γ : S → Nat → Array Slot → List Value → Prop} {u : S} {pc : Nat} {L : List (Nat × Value)} {st : List Value}
theorem w_aald2 (h : Cx Wx l D κ ε own cc mL ret R post Γ) {a : Nat} (q0 : Nat) {n : Nat} {f : Nat → Option Nat} (he : (Wx u).1[q0]? = some (a, .inl (κ 3, n, .inr (.inr (.inr (.inr f)))))) {i : Int} (hi : 0 ≤ i ∧ i < n) (hn : n < 2147483648) {b : Nat} (hv : f i.toNat = some b) (d : decode cc pc = .ok (.aaload, 1)) (k : WW Γ mL u (pc + 1) L (.ref b :: st)) : WW Γ mL u pc L (.int (iI i) :: .ref a :: st) := by
  obtain ⟨p, e, s, m, args, below, meth, c, A, Q, rfl, hx, hb, hml, hown, hts, hK, hE, hA, hfin⟩ := h
  intro ls hl H locs hP hD hS
  have hin : vp_in (iI i) n := iI_in hi hn
  have hlt : (iI i).toNatClampNeg < n := Nat.not_le.mp fun q => hin (Or.inr q)
  have hv2 : va_rf (f (iI i).toNatClampNeg) = .ref b := by rw [iI_clamp hi.1 (by omega), hv]; rfl
  exact W.aald (v := .ref b) (ty := .array .int) hx hb (hP q0 _ he) ((hK.2 3 _ rfl).1 n (fun j => va_rf (f j))) rfl (fun q => by cases q) (by show ¬ (iI i < 0 ∨ (arrV _ _ _).slots.size ≤ _); rw [arrV_size]; exact hin) (by show (arrV _ _ _).slots[_]? = _; rw [arrV_read _ _ hlt, hv2]) rfl rfl d (k ls hl H locs hP hD hS)
end R2
theorem ld_choices {l : Launch} {D : va_G} {κ a : Nat → Nat} {ε : Nat} {own : String} {cc : ByteArray} {mL : Nat} {ret : Option FieldType} {R : Room} {post : Option Value → US → Prop} {Γ : US → Nat → Array Slot → List Value → Prop} {u : US} {pc : Nat} {L : List (Nat × Value)} {st : List Value} (h : Cx (W0 κ a) l D κ ε own cc mL ret R post Γ) {i : Int} (hi : 0 ≤ i ∧ i < 12) {q : Nat} (hq : q = 18 + i.toNat) (d : decode cc pc = .ok (.aaload, 1)) (k : WW Γ mL u (pc + 1) L (.ref (a q) :: st)) : WW Γ mL u pc L (.int (iI i) :: .ref (a 12) :: st) := by
  subst hq
  exact w_aald2 h 12 rfl hi (Nat.le_of_ble_eq_true rfl) rfl d k
theorem pow_lim {V ch : Nat} (hV : 1 ≤ V ∧ V ≤ 12) (hc : ch ≤ 2) : 1 ≤ V ^ ch ∧ V ^ ch ≤ 144 := by
  rcases (by omega : ch = 0 ∨ ch = 1 ∨ ch = 2) with rfl | rfl | rfl
  · rw [Nat.pow_zero]; omega
  · rw [Nat.pow_one]; omega
  · rw [Nat.pow_two]
    have h1 : 1 * 1 ≤ V * V := Nat.mul_le_mul hV.1 hV.1
    have h2 : V * V ≤ 12 * 12 := Nat.mul_le_mul hV.2 hV.2
    omega
theorem kyAt_lt {V N c ch s : Nat} (hV : 1 ≤ V ∧ V ≤ 12) (hN : 1 ≤ N ∧ N ≤ 4) (hc : ch ≤ N - 1) : kyAt V N c ch s < 2744 := by
  unfold kyAt p14
  have h1 := kof_lt (s := s) hV ch
  have h2 : c % 14 ^ (N - 1 - ch) < 14 ^ (N - 1 - ch) := Nat.mod_lt _ (Nat.pow_pos (by omega))
  have h3 : (c % 14 ^ (N - 1 - ch) + 1) * 14 ^ ch ≤ 14 ^ (N - 1 - ch) * 14 ^ ch := Nat.mul_le_mul_right _ h2
  rw [← Nat.pow_add, show N - 1 - ch + ch = N - 1 by omega, Nat.succ_mul] at h3
  have h4 : 14 ^ (N - 1) ≤ 14 ^ 3 := Nat.pow_le_pow_right (by omega) (by omega)
  have h5 : (14 : Nat) ^ 3 = 2744 := by decide
  omega
theorem Lr_lim {V N more : Nat} {Cc : Nat → Nat → Nat → Nat} (h : ∀ a b c, Cc a b c ≤ 32768) : ∀ k s : Nat, Lr V N Cc more k s ≤ 32768 * (k + 1)
  | 0, s => by show Cc _ _ _ ≤ _; have := h (min more (N - 1)) s V; omega
  | k + 1, s => by
    rw [Lr_s]
    have h1 := h (min (more - k - 1) (N - 1)) s (am (fun w => Cc (min (more - k - 1) (N - 1)) s w + Lr V N Cc more k (nx V N (more - k - 1) s w)) V)
    have h2 := Lr_lim (V := V) (N := N) (more := more) h k (nx V N (more - k - 1) s (am (fun w => Cc (min (more - k - 1) (N - 1)) s w + Lr V N Cc more k (nx V N (more - k - 1) s w)) V))
    omega
theorem lb_cs (z : Int) : lb z = 13 ∨ lb z = 14 := by
  unfold lb
  split
  · exact Or.inl rfl
  · exact Or.inr rfl
end
section
theorem dX3_chooseAt_0 : decode cX3_chooseAt 0 = .ok (.aload_n 0, 1) := by decide +kernel
theorem dX3_chooseAt_1 : decode cX3_chooseAt 1 = .ok (.getfield 26, 3) := by decide +kernel
theorem dX3_chooseAt_4 : decode cX3_chooseAt 4 = .ok (.getfield 42, 3) := by decide +kernel
theorem dX3_chooseAt_7 : decode cX3_chooseAt 7 = .ok (.istore_n 2, 1) := by decide +kernel
theorem dX3_chooseAt_8 : decode cX3_chooseAt 8 = .ok (.aload_n 0, 1) := by decide +kernel
theorem dX3_chooseAt_9 : decode cX3_chooseAt 9 = .ok (.iload_n 1, 1) := by decide +kernel
theorem dX3_chooseAt_10 : decode cX3_chooseAt 10 = .ok (.invokevirtual 38, 3) := by decide +kernel
theorem dX3_chooseAt_13 : decode cX3_chooseAt 13 = .ok (.istore_n 3, 1) := by decide +kernel
theorem dX3_chooseAt_14 : decode cX3_chooseAt 14 = .ok (.aload_n 0, 1) := by decide +kernel
theorem dX3_chooseAt_15 : decode cX3_chooseAt 15 = .ok (.iload_n 1, 1) := by decide +kernel
theorem dX3_chooseAt_16 : decode cX3_chooseAt 16 = .ok (.iconst 1, 1) := by decide +kernel
theorem dX3_chooseAt_17 : decode cX3_chooseAt 17 = .ok (.iadd, 1) := by decide +kernel
theorem dX3_chooseAt_18 : decode cX3_chooseAt 18 = .ok (.invokevirtual 38, 3) := by decide +kernel
theorem dX3_chooseAt_21 : decode cX3_chooseAt 21 = .ok (.istore 4, 2) := by decide +kernel
theorem dX3_chooseAt_23 : decode cX3_chooseAt 23 = .ok (.iconst 0, 1) := by decide +kernel
theorem dX3_chooseAt_24 : decode cX3_chooseAt 24 = .ok (.istore 5, 2) := by decide +kernel
theorem dX3_chooseAt_26 : decode cX3_chooseAt 26 = .ok (.iload 5, 2) := by decide +kernel
theorem dX3_chooseAt_28 : decode cX3_chooseAt 28 = .ok (.iload_n 3, 1) := by decide +kernel
theorem dX3_chooseAt_29 : decode cX3_chooseAt 29 = .ok (.if_icmp .ge 105, 3) := by decide +kernel
theorem dX3_chooseAt_32 : decode cX3_chooseAt 32 = .ok (.iconst 0, 1) := by decide +kernel
theorem dX3_chooseAt_33 : decode cX3_chooseAt 33 = .ok (.istore 6, 2) := by decide +kernel
theorem dX3_chooseAt_35 : decode cX3_chooseAt 35 = .ok (.iconst 0, 1) := by decide +kernel
theorem dX3_chooseAt_36 : decode cX3_chooseAt 36 = .ok (.istore 7, 2) := by decide +kernel
theorem dX3_chooseAt_38 : decode cX3_chooseAt 38 = .ok (.iconst 0, 1) := by decide +kernel
theorem dX3_chooseAt_39 : decode cX3_chooseAt 39 = .ok (.istore 8, 2) := by decide +kernel
theorem dX3_chooseAt_41 : decode cX3_chooseAt 41 = .ok (.iload 8, 2) := by decide +kernel
theorem dX3_chooseAt_43 : decode cX3_chooseAt 43 = .ok (.iload_n 2, 1) := by decide +kernel
theorem dX3_chooseAt_44 : decode cX3_chooseAt 44 = .ok (.if_icmp .ge 64, 3) := by decide +kernel
theorem dX3_chooseAt_47 : decode cX3_chooseAt 47 = .ok (.aload_n 0, 1) := by decide +kernel
theorem dX3_chooseAt_48 : decode cX3_chooseAt 48 = .ok (.getfield 23, 3) := by decide +kernel
theorem dX3_chooseAt_51 : decode cX3_chooseAt 51 = .ok (.iload 5, 2) := by decide +kernel
theorem dX3_chooseAt_53 : decode cX3_chooseAt 53 = .ok (.iload_n 2, 1) := by decide +kernel
theorem dX3_chooseAt_54 : decode cX3_chooseAt 54 = .ok (.imul, 1) := by decide +kernel
theorem dX3_chooseAt_55 : decode cX3_chooseAt 55 = .ok (.iload 8, 2) := by decide +kernel
theorem dX3_chooseAt_57 : decode cX3_chooseAt 57 = .ok (.iadd, 1) := by decide +kernel
theorem dX3_chooseAt_58 : decode cX3_chooseAt 58 = .ok (.iload 4, 2) := by decide +kernel
theorem dX3_chooseAt_60 : decode cX3_chooseAt 60 = .ok (.irem, 1) := by decide +kernel
theorem dX3_chooseAt_61 : decode cX3_chooseAt 61 = .ok (.iaload, 1) := by decide +kernel
theorem dX3_chooseAt_62 : decode cX3_chooseAt 62 = .ok (.istore 9, 2) := by decide +kernel
theorem dX3_chooseAt_64 : decode cX3_chooseAt 64 = .ok (.aload_n 0, 1) := by decide +kernel
theorem dX3_chooseAt_65 : decode cX3_chooseAt 65 = .ok (.getfield 11, 3) := by decide +kernel
theorem dX3_chooseAt_68 : decode cX3_chooseAt 68 = .ok (.iload 5, 2) := by decide +kernel
theorem dX3_chooseAt_70 : decode cX3_chooseAt 70 = .ok (.bipush 13, 2) := by decide +kernel
theorem dX3_chooseAt_72 : decode cX3_chooseAt 72 = .ok (.imul, 1) := by decide +kernel
theorem dX3_chooseAt_73 : decode cX3_chooseAt 73 = .ok (.iload 8, 2) := by decide +kernel
theorem dX3_chooseAt_75 : decode cX3_chooseAt 75 = .ok (.iadd, 1) := by decide +kernel
theorem dX3_chooseAt_76 : decode cX3_chooseAt 76 = .ok (.iaload, 1) := by decide +kernel
theorem dX3_chooseAt_77 : decode cX3_chooseAt 77 = .ok (.iload 9, 2) := by decide +kernel
theorem dX3_chooseAt_79 : decode cX3_chooseAt 79 = .ok (.iadd, 1) := by decide +kernel
theorem dX3_chooseAt_80 : decode cX3_chooseAt 80 = .ok (.istore 10, 2) := by decide +kernel
theorem dX3_chooseAt_82 : decode cX3_chooseAt 82 = .ok (.iload 8, 2) := by decide +kernel
theorem dX3_chooseAt_84 : decode cX3_chooseAt 84 = .ok (.ifCond .eq 10, 3) := by decide +kernel
theorem dX3_chooseAt_87 : decode cX3_chooseAt 87 = .ok (.iload 10, 2) := by decide +kernel
theorem dX3_chooseAt_89 : decode cX3_chooseAt 89 = .ok (.iload 7, 2) := by decide +kernel
theorem dX3_chooseAt_91 : decode cX3_chooseAt 91 = .ok (.if_icmp .ge 11, 3) := by decide +kernel
theorem dX3_chooseAt_94 : decode cX3_chooseAt 94 = .ok (.iload 8, 2) := by decide +kernel
theorem dX3_chooseAt_96 : decode cX3_chooseAt 96 = .ok (.istore 6, 2) := by decide +kernel
theorem dX3_chooseAt_98 : decode cX3_chooseAt 98 = .ok (.iload 10, 2) := by decide +kernel
theorem dX3_chooseAt_100 : decode cX3_chooseAt 100 = .ok (.istore 7, 2) := by decide +kernel
theorem dX3_chooseAt_102 : decode cX3_chooseAt 102 = .ok (.iinc 8 1, 3) := by decide +kernel
theorem dX3_chooseAt_105 : decode cX3_chooseAt 105 = .ok (.goto (-64), 3) := by decide +kernel
theorem dX3_chooseAt_108 : decode cX3_chooseAt 108 = .ok (.aload_n 0, 1) := by decide +kernel
theorem dX3_chooseAt_109 : decode cX3_chooseAt 109 = .ok (.getfield 20, 3) := by decide +kernel
theorem dX3_chooseAt_112 : decode cX3_chooseAt 112 = .ok (.iload 5, 2) := by decide +kernel
theorem dX3_chooseAt_114 : decode cX3_chooseAt 114 = .ok (.iload 7, 2) := by decide +kernel
theorem dX3_chooseAt_116 : decode cX3_chooseAt 116 = .ok (.iastore, 1) := by decide +kernel
theorem dX3_chooseAt_117 : decode cX3_chooseAt 117 = .ok (.aload_n 0, 1) := by decide +kernel
theorem dX3_chooseAt_118 : decode cX3_chooseAt 118 = .ok (.getfield 17, 3) := by decide +kernel
theorem dX3_chooseAt_121 : decode cX3_chooseAt 121 = .ok (.iload_n 1, 1) := by decide +kernel
theorem dX3_chooseAt_122 : decode cX3_chooseAt 122 = .ok (.aaload, 1) := by decide +kernel
theorem dX3_chooseAt_123 : decode cX3_chooseAt 123 = .ok (.iload 5, 2) := by decide +kernel
theorem dX3_chooseAt_125 : decode cX3_chooseAt 125 = .ok (.iload 6, 2) := by decide +kernel
theorem dX3_chooseAt_127 : decode cX3_chooseAt 127 = .ok (.iastore, 1) := by decide +kernel
theorem dX3_chooseAt_128 : decode cX3_chooseAt 128 = .ok (.iinc 5 1, 3) := by decide +kernel
theorem dX3_chooseAt_131 : decode cX3_chooseAt 131 = .ok (.goto (-105), 3) := by decide +kernel
theorem dX3_chooseAt_134 : decode cX3_chooseAt 134 = .ok (.return_, 1) := by decide +kernel
theorem dX3_fillCosts_0 : decode cX3_fillCosts 0 = .ok (.aload_n 0, 1) := by decide +kernel
theorem dX3_fillCosts_1 : decode cX3_fillCosts 1 = .ok (.iload_n 2, 1) := by decide +kernel
theorem dX3_fillCosts_2 : decode cX3_fillCosts 2 = .ok (.invokevirtual 61, 3) := by decide +kernel
theorem dX3_fillCosts_5 : decode cX3_fillCosts 5 = .ok (.istore_n 3, 1) := by decide +kernel
theorem dX3_fillCosts_6 : decode cX3_fillCosts 6 = .ok (.iload_n 1, 1) := by decide +kernel
theorem dX3_fillCosts_7 : decode cX3_fillCosts 7 = .ok (.getstatic 67, 3) := by decide +kernel
theorem dX3_fillCosts_10 : decode cX3_fillCosts 10 = .ok (.aload_n 0, 1) := by decide +kernel
theorem dX3_fillCosts_11 : decode cX3_fillCosts 11 = .ok (.getfield 26, 3) := by decide +kernel
theorem dX3_fillCosts_14 : decode cX3_fillCosts 14 = .ok (.getfield 48, 3) := by decide +kernel
theorem dX3_fillCosts_17 : decode cX3_fillCosts 17 = .ok (.iconst 1, 1) := by decide +kernel
theorem dX3_fillCosts_18 : decode cX3_fillCosts 18 = .ok (.isub, 1) := by decide +kernel
theorem dX3_fillCosts_19 : decode cX3_fillCosts 19 = .ok (.iload_n 3, 1) := by decide +kernel
theorem dX3_fillCosts_20 : decode cX3_fillCosts 20 = .ok (.isub, 1) := by decide +kernel
theorem dX3_fillCosts_21 : decode cX3_fillCosts 21 = .ok (.iaload, 1) := by decide +kernel
theorem dX3_fillCosts_22 : decode cX3_fillCosts 22 = .ok (.irem, 1) := by decide +kernel
theorem dX3_fillCosts_23 : decode cX3_fillCosts 23 = .ok (.istore 4, 2) := by decide +kernel
theorem dX3_fillCosts_25 : decode cX3_fillCosts 25 = .ok (.aload_n 0, 1) := by decide +kernel
theorem dX3_fillCosts_26 : decode cX3_fillCosts 26 = .ok (.iload_n 2, 1) := by decide +kernel
theorem dX3_fillCosts_27 : decode cX3_fillCosts 27 = .ok (.invokevirtual 38, 3) := by decide +kernel
theorem dX3_fillCosts_30 : decode cX3_fillCosts 30 = .ok (.istore 5, 2) := by decide +kernel
theorem dX3_fillCosts_32 : decode cX3_fillCosts 32 = .ok (.iconst 0, 1) := by decide +kernel
theorem dX3_fillCosts_33 : decode cX3_fillCosts 33 = .ok (.istore 6, 2) := by decide +kernel
theorem dX3_fillCosts_35 : decode cX3_fillCosts 35 = .ok (.iload 6, 2) := by decide +kernel
theorem dX3_fillCosts_37 : decode cX3_fillCosts 37 = .ok (.iload 5, 2) := by decide +kernel
theorem dX3_fillCosts_39 : decode cX3_fillCosts 39 = .ok (.if_icmp .ge 86, 3) := by decide +kernel
theorem dX3_fillCosts_42 : decode cX3_fillCosts 42 = .ok (.aload_n 0, 1) := by decide +kernel
theorem dX3_fillCosts_43 : decode cX3_fillCosts 43 = .ok (.getfield 30, 3) := by decide +kernel
theorem dX3_fillCosts_46 : decode cX3_fillCosts 46 = .ok (.aload_n 0, 1) := by decide +kernel
theorem dX3_fillCosts_47 : decode cX3_fillCosts 47 = .ok (.getfield 26, 3) := by decide +kernel
theorem dX3_fillCosts_50 : decode cX3_fillCosts 50 = .ok (.getfield 48, 3) := by decide +kernel
theorem dX3_fillCosts_53 : decode cX3_fillCosts 53 = .ok (.iload 4, 2) := by decide +kernel
theorem dX3_fillCosts_55 : decode cX3_fillCosts 55 = .ok (.getstatic 67, 3) := by decide +kernel
theorem dX3_fillCosts_58 : decode cX3_fillCosts 58 = .ok (.iload_n 3, 1) := by decide +kernel
theorem dX3_fillCosts_59 : decode cX3_fillCosts 59 = .ok (.iaload, 1) := by decide +kernel
theorem dX3_fillCosts_60 : decode cX3_fillCosts 60 = .ok (.imul, 1) := by decide +kernel
theorem dX3_fillCosts_61 : decode cX3_fillCosts 61 = .ok (.aload_n 0, 1) := by decide +kernel
theorem dX3_fillCosts_62 : decode cX3_fillCosts 62 = .ok (.iload 6, 2) := by decide +kernel
theorem dX3_fillCosts_64 : decode cX3_fillCosts 64 = .ok (.iload_n 3, 1) := by decide +kernel
theorem dX3_fillCosts_65 : decode cX3_fillCosts 65 = .ok (.invokevirtual 70, 3) := by decide +kernel
theorem dX3_fillCosts_68 : decode cX3_fillCosts 68 = .ok (.iadd, 1) := by decide +kernel
theorem dX3_fillCosts_69 : decode cX3_fillCosts 69 = .ok (.invokevirtual 73, 3) := by decide +kernel
theorem dX3_fillCosts_72 : decode cX3_fillCosts 72 = .ok (.iconst 0, 1) := by decide +kernel
theorem dX3_fillCosts_73 : decode cX3_fillCosts 73 = .ok (.istore 7, 2) := by decide +kernel
theorem dX3_fillCosts_75 : decode cX3_fillCosts 75 = .ok (.iload 7, 2) := by decide +kernel
theorem dX3_fillCosts_77 : decode cX3_fillCosts 77 = .ok (.aload_n 0, 1) := by decide +kernel
theorem dX3_fillCosts_78 : decode cX3_fillCosts 78 = .ok (.getfield 26, 3) := by decide +kernel
theorem dX3_fillCosts_81 : decode cX3_fillCosts 81 = .ok (.getfield 42, 3) := by decide +kernel
theorem dX3_fillCosts_84 : decode cX3_fillCosts 84 = .ok (.if_icmp .gt 35, 3) := by decide +kernel
theorem dX3_fillCosts_87 : decode cX3_fillCosts 87 = .ok (.aload_n 0, 1) := by decide +kernel
theorem dX3_fillCosts_88 : decode cX3_fillCosts 88 = .ok (.getfield 11, 3) := by decide +kernel
theorem dX3_fillCosts_91 : decode cX3_fillCosts 91 = .ok (.iload 6, 2) := by decide +kernel
theorem dX3_fillCosts_93 : decode cX3_fillCosts 93 = .ok (.bipush 13, 2) := by decide +kernel
theorem dX3_fillCosts_95 : decode cX3_fillCosts 95 = .ok (.imul, 1) := by decide +kernel
theorem dX3_fillCosts_96 : decode cX3_fillCosts 96 = .ok (.iload 7, 2) := by decide +kernel
theorem dX3_fillCosts_98 : decode cX3_fillCosts 98 = .ok (.iadd, 1) := by decide +kernel
theorem dX3_fillCosts_99 : decode cX3_fillCosts 99 = .ok (.aload_n 0, 1) := by decide +kernel
theorem dX3_fillCosts_100 : decode cX3_fillCosts 100 = .ok (.getfield 30, 3) := by decide +kernel
theorem dX3_fillCosts_103 : decode cX3_fillCosts 103 = .ok (.getfield 78, 3) := by decide +kernel
theorem dX3_fillCosts_106 : decode cX3_fillCosts 106 = .ok (.iload 7, 2) := by decide +kernel
theorem dX3_fillCosts_108 : decode cX3_fillCosts 108 = .ok (.iaload, 1) := by decide +kernel
theorem dX3_fillCosts_109 : decode cX3_fillCosts 109 = .ok (.invokestatic 81, 3) := by decide +kernel
theorem dX3_fillCosts_112 : decode cX3_fillCosts 112 = .ok (.iastore, 1) := by decide +kernel
theorem dX3_fillCosts_113 : decode cX3_fillCosts 113 = .ok (.iinc 7 1, 3) := by decide +kernel
theorem dX3_fillCosts_116 : decode cX3_fillCosts 116 = .ok (.goto (-41), 3) := by decide +kernel
theorem dX3_fillCosts_119 : decode cX3_fillCosts 119 = .ok (.iinc 6 1, 3) := by decide +kernel
theorem dX3_fillCosts_122 : decode cX3_fillCosts 122 = .ok (.goto (-87), 3) := by decide +kernel
theorem dX3_fillCosts_125 : decode cX3_fillCosts 125 = .ok (.return_, 1) := by decide +kernel
theorem dX3_keyOf_0 : decode cX3_keyOf 0 = .ok (.iconst 1, 1) := by decide +kernel
theorem dX3_keyOf_1 : decode cX3_keyOf 1 = .ok (.aload_n 0, 1) := by decide +kernel
theorem dX3_keyOf_2 : decode cX3_keyOf 2 = .ok (.getfield 26, 3) := by decide +kernel
theorem dX3_keyOf_5 : decode cX3_keyOf 5 = .ok (.getfield 42, 3) := by decide +kernel
theorem dX3_keyOf_8 : decode cX3_keyOf 8 = .ok (.invokestatic 64, 3) := by decide +kernel
theorem dX3_keyOf_11 : decode cX3_keyOf 11 = .ok (.istore_n 3, 1) := by decide +kernel
theorem dX3_keyOf_12 : decode cX3_keyOf 12 = .ok (.iload_n 1, 1) := by decide +kernel
theorem dX3_keyOf_13 : decode cX3_keyOf 13 = .ok (.istore 4, 2) := by decide +kernel
theorem dX3_keyOf_15 : decode cX3_keyOf 15 = .ok (.iconst 0, 1) := by decide +kernel
theorem dX3_keyOf_16 : decode cX3_keyOf 16 = .ok (.istore 5, 2) := by decide +kernel
theorem dX3_keyOf_18 : decode cX3_keyOf 18 = .ok (.iconst 0, 1) := by decide +kernel
theorem dX3_keyOf_19 : decode cX3_keyOf 19 = .ok (.istore 6, 2) := by decide +kernel
theorem dX3_keyOf_21 : decode cX3_keyOf 21 = .ok (.iload 6, 2) := by decide +kernel
theorem dX3_keyOf_23 : decode cX3_keyOf 23 = .ok (.iload_n 2, 1) := by decide +kernel
theorem dX3_keyOf_24 : decode cX3_keyOf 24 = .ok (.if_icmp .ge 33, 3) := by decide +kernel
theorem dX3_keyOf_27 : decode cX3_keyOf 27 = .ok (.iload 5, 2) := by decide +kernel
theorem dX3_keyOf_29 : decode cX3_keyOf 29 = .ok (.iload 4, 2) := by decide +kernel
theorem dX3_keyOf_31 : decode cX3_keyOf 31 = .ok (.iload_n 3, 1) := by decide +kernel
theorem dX3_keyOf_32 : decode cX3_keyOf 32 = .ok (.irem, 1) := by decide +kernel
theorem dX3_keyOf_33 : decode cX3_keyOf 33 = .ok (.iconst 1, 1) := by decide +kernel
theorem dX3_keyOf_34 : decode cX3_keyOf 34 = .ok (.iadd, 1) := by decide +kernel
theorem dX3_keyOf_35 : decode cX3_keyOf 35 = .ok (.getstatic 67, 3) := by decide +kernel
theorem dX3_keyOf_38 : decode cX3_keyOf 38 = .ok (.iload 6, 2) := by decide +kernel
theorem dX3_keyOf_40 : decode cX3_keyOf 40 = .ok (.iaload, 1) := by decide +kernel
theorem dX3_keyOf_41 : decode cX3_keyOf 41 = .ok (.imul, 1) := by decide +kernel
theorem dX3_keyOf_42 : decode cX3_keyOf 42 = .ok (.iadd, 1) := by decide +kernel
theorem dX3_keyOf_43 : decode cX3_keyOf 43 = .ok (.istore 5, 2) := by decide +kernel
theorem dX3_keyOf_45 : decode cX3_keyOf 45 = .ok (.iload 4, 2) := by decide +kernel
theorem dX3_keyOf_47 : decode cX3_keyOf 47 = .ok (.iload_n 3, 1) := by decide +kernel
theorem dX3_keyOf_48 : decode cX3_keyOf 48 = .ok (.idiv, 1) := by decide +kernel
theorem dX3_keyOf_49 : decode cX3_keyOf 49 = .ok (.istore 4, 2) := by decide +kernel
theorem dX3_keyOf_51 : decode cX3_keyOf 51 = .ok (.iinc 6 1, 3) := by decide +kernel
theorem dX3_keyOf_54 : decode cX3_keyOf 54 = .ok (.goto (-33), 3) := by decide +kernel
theorem dX3_keyOf_57 : decode cX3_keyOf 57 = .ok (.iload 5, 2) := by decide +kernel
theorem dX3_keyOf_59 : decode cX3_keyOf 59 = .ok (.ireturn, 1) := by decide +kernel
theorem dX3_placesAt_0 : decode cX3_placesAt 0 = .ok (.iload_n 1, 1) := by decide +kernel
theorem dX3_placesAt_1 : decode cX3_placesAt 1 = .ok (.aload_n 0, 1) := by decide +kernel
theorem dX3_placesAt_2 : decode cX3_placesAt 2 = .ok (.getfield 26, 3) := by decide +kernel
theorem dX3_placesAt_5 : decode cX3_placesAt 5 = .ok (.getfield 48, 3) := by decide +kernel
theorem dX3_placesAt_8 : decode cX3_placesAt 8 = .ok (.iconst 1, 1) := by decide +kernel
theorem dX3_placesAt_9 : decode cX3_placesAt 9 = .ok (.isub, 1) := by decide +kernel
theorem dX3_placesAt_10 : decode cX3_placesAt 10 = .ok (.invokestatic 55, 3) := by decide +kernel
theorem dX3_placesAt_13 : decode cX3_placesAt 13 = .ok (.ireturn, 1) := by decide +kernel
theorem dX3_statesAt_0 : decode cX3_statesAt 0 = .ok (.iconst 1, 1) := by decide +kernel
theorem dX3_statesAt_1 : decode cX3_statesAt 1 = .ok (.istore_n 2, 1) := by decide +kernel
theorem dX3_statesAt_2 : decode cX3_statesAt 2 = .ok (.iconst 0, 1) := by decide +kernel
theorem dX3_statesAt_3 : decode cX3_statesAt 3 = .ok (.istore_n 3, 1) := by decide +kernel
theorem dX3_statesAt_4 : decode cX3_statesAt 4 = .ok (.iload_n 3, 1) := by decide +kernel
theorem dX3_statesAt_5 : decode cX3_statesAt 5 = .ok (.aload_n 0, 1) := by decide +kernel
theorem dX3_statesAt_6 : decode cX3_statesAt 6 = .ok (.iload_n 1, 1) := by decide +kernel
theorem dX3_statesAt_7 : decode cX3_statesAt 7 = .ok (.invokevirtual 61, 3) := by decide +kernel
theorem dX3_statesAt_10 : decode cX3_statesAt 10 = .ok (.if_icmp .ge 23, 3) := by decide +kernel
theorem dX3_statesAt_13 : decode cX3_statesAt 13 = .ok (.iload_n 2, 1) := by decide +kernel
theorem dX3_statesAt_14 : decode cX3_statesAt 14 = .ok (.iconst 1, 1) := by decide +kernel
theorem dX3_statesAt_15 : decode cX3_statesAt 15 = .ok (.aload_n 0, 1) := by decide +kernel
theorem dX3_statesAt_16 : decode cX3_statesAt 16 = .ok (.getfield 26, 3) := by decide +kernel
theorem dX3_statesAt_19 : decode cX3_statesAt 19 = .ok (.getfield 42, 3) := by decide +kernel
theorem dX3_statesAt_22 : decode cX3_statesAt 22 = .ok (.invokestatic 64, 3) := by decide +kernel
theorem dX3_statesAt_25 : decode cX3_statesAt 25 = .ok (.imul, 1) := by decide +kernel
theorem dX3_statesAt_26 : decode cX3_statesAt 26 = .ok (.istore_n 2, 1) := by decide +kernel
theorem dX3_statesAt_27 : decode cX3_statesAt 27 = .ok (.iinc 3 1, 3) := by decide +kernel
theorem dX3_statesAt_30 : decode cX3_statesAt 30 = .ok (.goto (-26), 3) := by decide +kernel
theorem dX3_statesAt_33 : decode cX3_statesAt 33 = .ok (.iload_n 2, 1) := by decide +kernel
theorem dX3_statesAt_34 : decode cX3_statesAt 34 = .ok (.ireturn, 1) := by decide +kernel
set_option maxHeartbeats 4000000 in
set_option maxRecDepth 100000 in
theorem mX3_placesAt (l : Launch) (D : va_G) (κ a : Nat → Nat) (ε : Nat) (V N : Nat) (u : US) (hV : 1 ≤ V ∧ V ≤ 12) (hN : 1 ≤ N ∧ N ≤ 4) (eV : u.1 4 = (V : Int)) (eN : u.1 5 = (N : Int)) (d : Nat) (hd : d ≤ 12) : Ct (W0 κ a) l D κ ε yX3_placesAt cX3_placesAt 2 (some .int) 1 21 0 0 u [.ref (a 3), .int (iI (d : Int))] (fun v u' => v = some (.int (iI ((min d (N - 1) : Nat) : Int))) ∧ u' = u) := by
  refine Ct.of (own := RX3) rfl (by decide +kernel) (Nat.le_of_ble_eq_true rfl) rfl (fun Γ h => ?_)
  refine w_iload_n h (pc := 0) dX3_placesAt_0 rfl ?_
  refine w_aload_n h (pc := 1) dX3_placesAt_1 rfl ?_
  refine g3_ledger h (pc := 2) wm_74 dX3_placesAt_2 ?_
  refine g1_order h (pc := 5) eN wm_415 dX3_placesAt_5 ?_
  refine w_iconst h (pc := 8) dX3_placesAt_8 ?_
  refine w_isub h (pc := 9) dX3_placesAt_9 ?_
  refine w_imin h (pc := 10) wm_425 wm_124 wm_125 wm_126 (Nat.le_of_ble_eq_true rfl) (Nat.le_of_ble_eq_true rfl) (Nat.le_of_ble_eq_true rfl) (Nat.le_of_ble_eq_true rfl) (by omega) (by omega) (z := ((min d (N - 1) : Nat) : Int)) (by split <;> omega) dX3_placesAt_10 ?_
  exact w_iret h (pc := 13) (ty := .int) rfl rfl dX3_placesAt_13 (Nat.le_of_ble_eq_true rfl) (Nat.le_of_ble_eq_true rfl) ⟨rfl, rfl⟩

set_option maxHeartbeats 4000000 in
set_option maxRecDepth 100000 in
theorem mX3_statesAt (l : Launch) (D : va_G) (κ a : Nat → Nat) (ε : Nat) (V N : Nat) (u : US) (hV : 1 ≤ V ∧ V ≤ 12) (hN : 1 ≤ N ∧ N ≤ 4) (eV : u.1 4 = (V : Int)) (eN : u.1 5 = (N : Int)) (d : Nat) (hd : d ≤ 2) : Ct (W0 κ a) l D κ ε yX3_statesAt cX3_statesAt 4 (some .int) 2 42 0 0 u [.ref (a 3), .int (iI (d : Int))] (fun v u' => v = some (.int (iI (stN V N d : Int))) ∧ u' = u) := by
  obtain ⟨ch, hch⟩ : ∃ ch, ch = min d (N - 1) := ⟨_, rfl⟩
  refine Ct.of (own := RX3) rfl (by decide +kernel) (Nat.le_of_ble_eq_true rfl) rfl (fun Γ h => ?_)
  refine w_iconst h (pc := 0) dX3_statesAt_0 ?_
  refine w_istore_n h (pc := 1) dX3_statesAt_1 (by decide) ?_
  refine w_iconst h (pc := 2) dX3_statesAt_2 ?_
  refine w_istore_n h (pc := 3) dX3_statesAt_3 (by decide) ?_
  have lp4 : ∀ (n9 p : Nat), ch < p + n9 → p ≤ ch → WW Γ 4 u 4 [(0, .ref (a 3)), (1, .int (iI (d : Int))), (2, .int (iI ((V ^ p : Nat) : Int))), (3, .int (iI (p : Int)))] [] := by
    intro n9
    induction n9 with
    | zero => intro p hn9 hp; exfalso; omega
    | succ n9 ih =>
      intro p hn9 hp
      refine w_iload_n h (pc := 4) dX3_statesAt_4 rfl ?_
      refine w_aload_n h (pc := 5) dX3_statesAt_5 rfl ?_
      refine w_iload_n h (pc := 6) dX3_statesAt_6 rfl ?_
      refine w_callV1 h (pc := 7) (mX3_placesAt l D κ a ε V N u hV hN eV eN d (by omega)) 3 rfl rfl (gdV wm_421 wm_422 wm_423 wm_23 wm_424) (by decide +kernel) ⟨(Nat.le_of_ble_eq_true rfl), (Nat.le_of_ble_eq_true rfl)⟩ ⟨(Nat.le_of_ble_eq_true rfl), (Nat.le_of_ble_eq_true rfl)⟩ (fun _ _ _ => ⟨rfl, rfl⟩) (Nat.le_of_ble_eq_true rfl) dX3_statesAt_7 (fun v1 u1 hp1 => ?_)
      obtain ⟨rfl, e1⟩ := hp1
      obtain rfl := e1.symm
      rw [← hch]
      simp only [Option.toList_some, List.cons_append, List.nil_append]
      refine w_icmp_ge h (pc := 10) (tgt := 33) dX3_statesAt_10 (by decide) (by omega) (by omega) (fun c10 => ?_) (fun c10 => ?_)
      · obtain rfl : p = min d (N - 1) := by omega
        refine w_iload_n h (pc := 33) dX3_statesAt_33 rfl ?_
        exact w_iret h (pc := 34) (ty := .int) rfl rfl dX3_statesAt_34 (Nat.le_of_ble_eq_true rfl) (Nat.le_of_ble_eq_true rfl) ⟨rfl, rfl⟩
      · refine w_iload_n h (pc := 13) dX3_statesAt_13 rfl ?_
        refine w_iconst h (pc := 14) dX3_statesAt_14 ?_
        refine w_aload_n h (pc := 15) dX3_statesAt_15 rfl ?_
        refine g3_ledger h (pc := 16) wm_74 dX3_statesAt_16 ?_
        refine g1_words h (pc := 19) eV wm_414 dX3_statesAt_19 ?_
        refine w_imax h (pc := 22) wm_430 wm_128 wm_125 wm_129 (Nat.le_of_ble_eq_true rfl) (Nat.le_of_ble_eq_true rfl) (Nat.le_of_ble_eq_true rfl) (Nat.le_of_ble_eq_true rfl) (by omega) (by omega) (z := (V : Int)) (by split <;> omega) dX3_statesAt_22 ?_
        refine w_imul h (pc := 25) dX3_statesAt_25 ?_
        refine w_istore_n h (pc := 26) dX3_statesAt_26 (by decide) ?_
        refine w_iinc h (pc := 27) dX3_statesAt_27 rfl (by decide) ?_
        refine w_goto h (pc := 30) (tgt := 4) dX3_statesAt_30 (by decide) ?_
        exact WW.sub (by rfl) (ih (p + 1) (by omega) (by omega))
  exact WW.sub (by rfl) (lp4 (ch + 1) 0 (by omega) (by omega))

set_option maxHeartbeats 4000000 in
set_option maxRecDepth 100000 in
theorem mX3_keyOf (l : Launch) (D : va_G) (κ a : Nat → Nat) (ε : Nat) (V N : Nat) (u : US) (hV : 1 ≤ V ∧ V ≤ 12) (hN : 1 ≤ N ∧ N ≤ 4) (eV : u.1 4 = (V : Int)) (eN : u.1 5 = (N : Int)) (s ch : Nat) (hs : s ≤ 1000) (hch : ch ≤ 2) : Ct (W0 κ a) l D κ ε yX3_keyOf cX3_keyOf 7 (some .int) 1 21 0 0 u [.ref (a 3), .int (iI (s : Int)), .int (iI (ch : Int))] (fun v u' => v = some (.int (iI (kof V s ch : Int))) ∧ u' = u) := by
  refine Ct.of (own := RX3) rfl (by decide +kernel) (Nat.le_of_ble_eq_true rfl) rfl (fun Γ h => ?_)
  refine w_iconst h (pc := 0) dX3_keyOf_0 ?_
  refine w_aload_n h (pc := 1) dX3_keyOf_1 rfl ?_
  refine g3_ledger h (pc := 2) wm_74 dX3_keyOf_2 ?_
  refine g1_words h (pc := 5) eV wm_414 dX3_keyOf_5 ?_
  refine w_imax h (pc := 8) wm_430 wm_128 wm_125 wm_129 (Nat.le_of_ble_eq_true rfl) (Nat.le_of_ble_eq_true rfl) (Nat.le_of_ble_eq_true rfl) (Nat.le_of_ble_eq_true rfl) (by omega) (by omega) (z := (V : Int)) (by split <;> omega) dX3_keyOf_8 ?_
  refine w_istore_n h (pc := 11) dX3_keyOf_11 (by decide) ?_
  refine w_iload_n h (pc := 12) dX3_keyOf_12 rfl ?_
  refine w_istore h (pc := 13) dX3_keyOf_13 (by decide) ?_
  refine w_iconst h (pc := 15) dX3_keyOf_15 ?_
  refine w_istore h (pc := 16) dX3_keyOf_16 (by decide) ?_
  refine w_iconst h (pc := 18) dX3_keyOf_18 ?_
  refine w_istore h (pc := 19) dX3_keyOf_19 (by decide) ?_
  have lp21 : ∀ (n9 p r : Nat), r = s / V ^ p → ch < p + n9 → p ≤ ch → WW Γ 7 u 21 [(0, .ref (a 3)), (2, .int (iI (ch : Int))), (3, .int (iI (V : Int))), (4, .int (iI (r : Int))), (5, .int (iI (kof V s p : Int))), (6, .int (iI (p : Int)))] [] := by
    intro n9
    induction n9 with
    | zero => intro p r hr hn9 hp; exfalso; omega
    | succ n9 ih =>
      intro p r hr hn9 hp
      have hrs : r ≤ s := by rw [hr]; exact Nat.div_le_self _ _
      refine w_iload h (pc := 21) dX3_keyOf_21 rfl ?_
      refine w_iload_n h (pc := 23) dX3_keyOf_23 rfl ?_
      refine w_icmp_ge h (pc := 24) (tgt := 57) dX3_keyOf_24 (by decide) (by omega) (by omega) (fun c24 => ?_) (fun c24 => ?_)
      · obtain rfl : p = ch := by omega
        refine w_iload h (pc := 57) dX3_keyOf_57 rfl ?_
        exact w_iret h (pc := 59) (ty := .int) rfl rfl dX3_keyOf_59 (Nat.le_of_ble_eq_true rfl) (Nat.le_of_ble_eq_true rfl) ⟨rfl, rfl⟩
      · have hpw := pw_p14 (n := p) (by omega)
        refine w_iload h (pc := 27) dX3_keyOf_27 rfl ?_
        refine w_iload h (pc := 29) dX3_keyOf_29 rfl ?_
        refine w_iload_n h (pc := 31) dX3_keyOf_31 rfl ?_
        refine w_irem h (pc := 32) dX3_keyOf_32 (by omega) (by omega) ?_
        refine w_iconst h (pc := 33) dX3_keyOf_33 ?_
        refine w_iadd h (pc := 34) dX3_keyOf_34 ?_
        refine w_powsN h (pc := 35) (fun _ z => z.2.2.1) dX3_keyOf_35 ?_
        refine w_iload h (pc := 38) dX3_keyOf_38 rfl ?_
        refine w_pow h (pc := 40) (by omega) hpw dX3_keyOf_40 ?_
        refine w_imul h (pc := 41) dX3_keyOf_41 ?_
        refine w_iadd h (pc := 42) dX3_keyOf_42 ?_
        refine w_istore h (pc := 43) dX3_keyOf_43 (by decide) ?_
        refine w_iload h (pc := 45) dX3_keyOf_45 rfl ?_
        refine w_iload_n h (pc := 47) dX3_keyOf_47 rfl ?_
        refine w_idiv h (pc := 48) dX3_keyOf_48 (by omega) (by omega) ?_
        refine w_istore h (pc := 49) dX3_keyOf_49 (by decide) ?_
        have hrV : ((r : Int) / (V : Int)) = ((r / V : Nat) : Int) := rfl
        have hkk : (kof V s (p + 1) : Int) = (kof V s p : Int) + ((r : Int) % (V : Int) + 1) * (p14 p : Int) := by rw [hr]; rfl
        refine w_iinc h (pc := 51) dX3_keyOf_51 rfl (by decide) ?_
        refine w_goto h (pc := 54) (tgt := 21) dX3_keyOf_54 (by decide) ?_
        exact WW.sub (by first | rfl | (rw [← hkk]; rfl)) (ih (p + 1) (r / V) (by rw [hr, Nat.div_div_eq_div_mul]; rfl) (by omega) (by omega))
  exact WW.sub (by rfl) (lp21 (ch + 1) 0 s (by rw [Nat.pow_zero, Nat.div_one]) (by omega) (by omega))

set_option maxHeartbeats 4000000 in
set_option maxRecDepth 100000 in
theorem mX3_fillCosts (l : Launch) (D : va_G) (κ a : Nat → Nat) (ε : Nat) (V N way num m : Nat) (S : List Nat) (T : Nat → List (Nat × Nat)) (u : US) (hA : AB V N way num m S T u) (hV1 : 1 ≤ V) (c d ch : Nat) (hc : c < 2744) (hd : d ≤ 2) (hch : ch = min d (N - 1)) : Ct (W0 κ a) l D κ ε yX3_fillCosts cX3_fillCosts 8 none 4 96 0 0 u [.ref (a 3), .int (iI (c : Int)), .int (iI (d : Int))] (fun v u' => v = none ∧ Fr [8, 9] [9, 10, 11] u u' ∧ ∀ s, s < V ^ ch → ∀ x, x ≤ V → u'.2 11 (s * 13 + x) = (CcF V N way num T c ch s x : Int)) := by
  obtain ⟨⟨hV, hN, hway, hnum, hm, hSl, hSV⟩, eV, eN, ew, en, ⟨eS, hS⟩, hT⟩ := id hA
  have hlim := pow_lim (V := V) (ch := ch) ⟨hV1, hV⟩ (by omega)
  have hpw1 := pw_p14 (n := N - 1 - ch) (by omega)
  have hpc1 := p14_cs (n := N - 1 - ch) (by omega)
  have hpw2 := pw_p14 (n := ch) (by omega)
  have hix : ((N : Int) - 1 - (ch : Int)).toNat = N - 1 - ch := by omega
  refine Ct.of (own := RX3) rfl (by decide +kernel) (Nat.le_of_ble_eq_true rfl) rfl (fun Γ h => ?_)
  refine w_aload_n h (pc := 0) dX3_fillCosts_0 rfl ?_
  refine w_iload_n h (pc := 1) dX3_fillCosts_1 rfl ?_
  refine w_callV1 h (pc := 2) (mX3_placesAt l D κ a ε V N u ⟨hV1, hV⟩ hN eV eN d (by omega)) 3 rfl rfl (gdV wm_421 wm_422 wm_423 wm_23 wm_424) (by decide +kernel) ⟨(Nat.le_of_ble_eq_true rfl), (Nat.le_of_ble_eq_true rfl)⟩ ⟨(Nat.le_of_ble_eq_true rfl), (Nat.le_of_ble_eq_true rfl)⟩ (fun _ _ _ => ⟨rfl, rfl⟩) (Nat.le_of_ble_eq_true rfl) dX3_fillCosts_2 (fun v1 u1 hp1 => ?_)
  obtain ⟨rfl, e1⟩ := hp1
  obtain rfl := e1.symm
  rw [← hch]
  simp only [Option.toList_some, List.cons_append, List.nil_append]
  refine w_istore_n h (pc := 5) dX3_fillCosts_5 (by decide) ?_
  refine w_iload_n h (pc := 6) dX3_fillCosts_6 rfl ?_
  refine w_powsN h (pc := 7) (fun _ z => z.2.2.1) dX3_fillCosts_7 ?_
  refine w_aload_n h (pc := 10) dX3_fillCosts_10 rfl ?_
  refine g3_ledger h (pc := 11) wm_74 dX3_fillCosts_11 ?_
  refine g1_order h (pc := 14) eN wm_415 dX3_fillCosts_14 ?_
  refine w_iconst h (pc := 17) dX3_fillCosts_17 ?_
  refine w_isub h (pc := 18) dX3_fillCosts_18 ?_
  refine w_iload_n h (pc := 19) dX3_fillCosts_19 rfl ?_
  refine w_isub h (pc := 20) dX3_fillCosts_20 ?_
  refine w_pow h (pc := 21) (by omega) ((congrArg pw hix).trans hpw1) dX3_fillCosts_21 ?_
  refine w_irem h (pc := 22) dX3_fillCosts_22 (by omega) (by omega) ?_
  refine w_istore h (pc := 23) dX3_fillCosts_23 (by decide) ?_
  refine w_aload_n h (pc := 25) dX3_fillCosts_25 rfl ?_
  refine w_iload_n h (pc := 26) dX3_fillCosts_26 rfl ?_
  refine w_callV1 h (pc := 27) (mX3_statesAt l D κ a ε V N u ⟨hV1, hV⟩ hN eV eN d hd) 3 rfl rfl (gdV wm_426 wm_427 wm_428 wm_23 wm_429) (by decide +kernel) ⟨(Nat.le_of_ble_eq_true rfl), (Nat.le_of_ble_eq_true rfl)⟩ ⟨(Nat.le_of_ble_eq_true rfl), (Nat.le_of_ble_eq_true rfl)⟩ (fun _ _ _ => ⟨rfl, rfl⟩) (Nat.le_of_ble_eq_true rfl) dX3_fillCosts_27 (fun v2 u2 hp2 => ?_)
  obtain ⟨rfl, e2⟩ := hp2
  obtain rfl := e2.symm
  unfold stN
  rw [← hch]
  simp only [Option.toList_some, List.cons_append, List.nil_append]
  refine w_istore h (pc := 30) dX3_fillCosts_30 (by decide) ?_
  refine w_iconst h (pc := 32) dX3_fillCosts_32 ?_
  refine w_istore h (pc := 33) dX3_fillCosts_33 (by decide) ?_
  have lp35 : ∀ (n9 s : Nat) (w : US), V ^ ch < s + n9 → s ≤ V ^ ch → Fr [8, 9] [9, 10, 11] u w → (∀ s9, s9 < s → ∀ x, x ≤ V → w.2 11 (s9 * 13 + x) = (CcF V N way num T c ch s9 x : Int)) → WW Γ 8 w 35 [(0, .ref (a 3)), (3, .int (iI (ch : Int))), (4, .int (iI ((c % p14 (N - 1 - ch) : Nat) : Int))), (5, .int (iI ((V ^ ch : Nat) : Int))), (6, .int (iI (s : Int)))] [] := by
    intro n9
    induction n9 with
    | zero => intro s w hn9 hs hF ht; exfalso; omega
    | succ n9 ih =>
      intro s w hn9 hs hF ht
      have hAw := hA.of hF (by simp [tS]) (by simp [tG]) (by simp) (by simp)
      have eVw := hAw.2.1
      have eNw := hAw.2.2.1
      have hky := kyAt_lt (V := V) (N := N) (c := c) (ch := ch) (s := s) ⟨hV1, hV⟩ hN (by omega)
      refine w_iload h (pc := 35) dX3_fillCosts_35 rfl ?_
      refine w_iload h (pc := 37) dX3_fillCosts_37 rfl ?_
      refine w_icmp_ge h (pc := 39) (tgt := 125) dX3_fillCosts_39 (by decide) (by omega) (by omega) (fun c39 => ?_) (fun c39 => ?_)
      · obtain rfl : s = V ^ ch := by omega
        exact w_vret h (pc := 125) rfl dX3_fillCosts_125 (Nat.le_of_ble_eq_true rfl) (Nat.le_of_ble_eq_true rfl) ⟨rfl, hF, ht⟩
      · have ih_2 := ih
        refine w_aload_n h (pc := 42) dX3_fillCosts_42 rfl ?_
        refine g3_reckoner h (pc := 43) wm_75 dX3_fillCosts_43 ?_
        refine w_aload_n h (pc := 46) dX3_fillCosts_46 rfl ?_
        refine g3_ledger h (pc := 47) wm_74 dX3_fillCosts_47 ?_
        refine g1_order h (pc := 50) eNw wm_415 dX3_fillCosts_50 ?_
        refine w_iload h (pc := 53) dX3_fillCosts_53 rfl ?_
        refine w_powsN h (pc := 55) (fun _ z => z.2.2.1) dX3_fillCosts_55 ?_
        refine w_iload_n h (pc := 58) dX3_fillCosts_58 rfl ?_
        refine w_pow h (pc := 59) (by omega) hpw2 dX3_fillCosts_59 ?_
        refine w_imul h (pc := 60) dX3_fillCosts_60 ?_
        refine w_aload_n h (pc := 61) dX3_fillCosts_61 rfl ?_
        refine w_iload h (pc := 62) dX3_fillCosts_62 rfl ?_
        refine w_iload_n h (pc := 64) dX3_fillCosts_64 rfl ?_
        refine w_callV2 h (pc := 65) (mX3_keyOf l D κ a ε V N w ⟨hV1, hV⟩ hN eVw eNw s ch (by omega) (by omega)) 3 rfl rfl (gdV wm_431 wm_432 wm_433 wm_23 wm_434) (by decide +kernel) ⟨(Nat.le_of_ble_eq_true rfl), (Nat.le_of_ble_eq_true rfl)⟩ ⟨(Nat.le_of_ble_eq_true rfl), (Nat.le_of_ble_eq_true rfl)⟩ (fun _ _ _ => ⟨rfl, rfl⟩) (Nat.le_of_ble_eq_true rfl) dX3_fillCosts_65 (fun v3 u3 hp3 => ?_)
        obtain ⟨rfl, e3⟩ := hp3
        obtain rfl := e3.symm
        simp only [Option.toList_some, List.cons_append, List.nil_append]
        refine w_iadd h (pc := 68) dX3_fillCosts_68 ?_
        rw [show ((c % p14 (N - 1 - ch) : Nat) : Int) * (p14 ch : Int) + (kof V s ch : Int) = (kyAt V N c ch s : Int) from rfl]
        refine w_callV2 h (pc := 69) (mX1_reckon l D κ a ε V m N way num w T hV (by omega) hN hway hnum hAw.2.2.2.2.2.2 eVw eNw hAw.2.2.2.1 hAw.2.2.2.2.1 N (by omega) (kyAt V N c ch s) (by omega)) 2 rfl rfl (gdV wm_435 wm_303 wm_304 wm_19 wm_305) (by decide +kernel) ⟨(Nat.le_of_ble_eq_true rfl), (Nat.le_of_ble_eq_true rfl)⟩ ⟨(Nat.le_of_ble_eq_true rfl), (Nat.le_of_ble_eq_true rfl)⟩ (fun _ _ _ => ⟨rfl, rfl⟩) (Nat.le_of_ble_eq_true rfl) dX3_fillCosts_69 (fun v4 w1 hp4 => ?_)
        obtain ⟨rfl, hF4, hc4⟩ := hp4
        simp only [Option.toList_none, List.nil_append]
        refine w_iconst h (pc := 72) dX3_fillCosts_72 ?_
        refine w_istore h (pc := 73) dX3_fillCosts_73 (by decide) ?_
        have lp75 : ∀ (n9 x : Nat) (w2 : US), V + 1 < x + n9 → x ≤ V + 1 → Fr [] [11] w1 w2 → (∀ s9, s9 < s → ∀ x, x ≤ V → w2.2 11 (s9 * 13 + x) = (CcF V N way num T c ch s9 x : Int)) → (∀ x9, x9 < x → w2.2 11 (s * 13 + x9) = (CcF V N way num T c ch s x9 : Int)) → WW Γ 8 w2 75 [(0, .ref (a 3)), (3, .int (iI (ch : Int))), (4, .int (iI ((c % p14 (N - 1 - ch) : Nat) : Int))), (5, .int (iI ((V ^ ch : Nat) : Int))), (6, .int (iI (s : Int))), (7, .int (iI (x : Int)))] [] := by
          intro n9
          induction n9 with
          | zero => intro x w2 hn8 hx hF2 ht2 hr2; exfalso; omega
          | succ n9 ih =>
            intro x w2 hn8 hx hF2 ht2 hr2
            have eV2 : w2.1 4 = (V : Int) := ((hF2.1 4 (by simp)).trans (hF4.1 4 (by simp))).trans eVw
            refine w_iload h (pc := 75) dX3_fillCosts_75 rfl ?_
            refine w_aload_n h (pc := 77) dX3_fillCosts_77 rfl ?_
            refine g3_ledger h (pc := 78) wm_74 dX3_fillCosts_78 ?_
            refine g1_words h (pc := 81) eV2 wm_414 dX3_fillCosts_81 ?_
            refine w_icmp_gt h (pc := 84) (tgt := 119) dX3_fillCosts_84 (by decide) (by omega) (by omega) (fun c84 => ?_) (fun c84 => ?_)
            · refine w_iinc h (pc := 119) dX3_fillCosts_119 rfl (by decide) ?_
              refine w_goto h (pc := 122) (tgt := 35) dX3_fillCosts_122 (by decide) ?_
              exact WW.sub (by rfl) (ih_2 (s + 1) w2 (by omega) (by omega) ((hF.tr (hF4.up (by simp) (by simp))).tr (hF2.up (by simp) (by simp))) (fun s9 h9 x9 hx9 => by rcases Nat.lt_or_ge s9 s with z | z; exact ht2 s9 z x9 hx9; obtain rfl : s9 = s := (by omega); exact hr2 x9 (by omega)))
            · refine w_aload_n h (pc := 87) dX3_fillCosts_87 rfl ?_
              refine g3_costs h (pc := 88) wm_69 dX3_fillCosts_88 ?_
              refine w_iload h (pc := 91) dX3_fillCosts_91 rfl ?_
              refine w_bipush h (pc := 93) dX3_fillCosts_93 (by decide) ?_
              refine w_imul h (pc := 95) dX3_fillCosts_95 ?_
              refine w_iload h (pc := 96) dX3_fillCosts_96 rfl ?_
              refine w_iadd h (pc := 98) dX3_fillCosts_98 ?_
              refine w_aload_n h (pc := 99) dX3_fillCosts_99 rfl ?_
              refine g3_reckoner h (pc := 100) wm_75 dX3_fillCosts_100 ?_
              have hcx : chs way num V N (fun n => T (n - 1)) (fun n => T (n + 3)) N (kyAt V N c ch s) x ≤ 1000000 := (chs_Ch hnum hN.1).each x (by omega)
              refine g2_chances h (pc := 103) wm_420 dX3_fillCosts_103 ?_
              refine w_iload h (pc := 106) dX3_fillCosts_106 rfl ?_
              refine ld_chances h (pc := 108) (by omega) (((congrFun (hF2.2 9 (by simp)) _).trans (hc4 x (by omega)))) dX3_fillCosts_108 ?_
              refine w_callSN1 h (pc := 109) (mX5_cost l D κ a ε w2 (chs way num V N (fun n => T (n - 1)) (fun n => T (n + 3)) N (kyAt V N c ch s) x) hcx) (host := "Canticle") (gdN wm_343) (fun _ z => z.2.2.2.2.2.1) wm_2 wm_342 (by decide +kernel) ⟨(Nat.le_of_ble_eq_true rfl), (Nat.le_of_ble_eq_true rfl)⟩ ⟨(Nat.le_of_ble_eq_true rfl), (Nat.le_of_ble_eq_true rfl)⟩ (fun _ _ _ => ⟨rfl, rfl⟩) (Nat.le_of_ble_eq_true rfl) dX3_fillCosts_109 (fun v5 u5 hp5 => ?_)
              obtain ⟨rfl, e5⟩ := hp5
              obtain rfl := e5.symm
              simp only [Option.toList_some, List.cons_append, List.nil_append]
              refine st_costs h (pc := 112) (by omega) dX3_fillCosts_112 ?_
              refine w_iinc h (pc := 113) dX3_fillCosts_113 rfl (by decide) ?_
              refine w_goto h (pc := 116) (tgt := 75) dX3_fillCosts_116 (by decide) ?_
              refine WW.sub (by rfl) (ih (x + 1) _ (by omega) (by omega) (hF2.tr (Fr.A (by simp))) (fun s9 h9 x9 hx9 => ?_) (fun x9 hx9 => ?_))
              · rw [uA_at]
                unfold upI
                rw [if_neg (by omega)]
                exact ht2 s9 h9 x9 hx9
              · rw [uA_at]
                unfold upI
                by_cases e : x9 = x
                · rw [if_pos (by omega), e]; rfl
                · rw [if_neg (by omega)]; exact hr2 x9 (by omega)
        exact WW.sub (by rfl) (lp75 (V + 2) 0 w1 (by omega) (by omega) Fr.rfl (fun s9 h9 x9 hx9 => by rw [hF4.2 11 (by simp)]; exact ht s9 h9 x9 hx9) (fun x9 h9 => absurd h9 (Nat.not_lt_zero x9)))
  exact WW.sub (by rfl) (lp35 (V ^ ch + 1) 0 u (by omega) (by omega) Fr.rfl (fun s9 h9 => absurd h9 (Nat.not_lt_zero s9)))

set_option maxHeartbeats 4000000 in
set_option maxRecDepth 100000 in
theorem mX3_chooseAt (l : Launch) (D : va_G) (κ a : Nat → Nat) (ε : Nat) (V N : Nat) (u : US) (hV : 1 ≤ V ∧ V ≤ 12) (hN : 1 ≤ N ∧ N ≤ 4) (eV : u.1 4 = (V : Int)) (eN : u.1 5 = (N : Int)) (d : Nat) (hd : d ≤ 1) (Cf : Nat → Nat → Nat) (Bf : Nat → Nat) (hC : ∀ s, s < stN V N d → ∀ x, x ≤ V → u.2 11 (s * 13 + x) = (Cf s x : Int) ∧ Cf s x ≤ 40000) (zl zb : Int) (e10 : u.1 10 = zl) (e20 : u.1 20 = zb) (hne : lb zb ≠ lb zl) (hB : ∀ s, s < stN V N (d + 1) → u.2 (lb zb) s = (Bf s : Int) ∧ Bf s ≤ 200000) : Ct (W0 κ a) l D κ ε yX3_chooseAt cX3_chooseAt 11 none 3 65 0 0 u [.ref (a 3), .int (iI (d : Int))] (fun v u' => v = none ∧ Fr [] [lb zl, 18 + d] u u' ∧ ∀ s, s < stN V N d → u'.2 (18 + d) s = (am (fun w => Cf s w + Bf ((s * V + w) % stN V N (d + 1))) V : Int) ∧ u'.2 (lb zl) s = ((fun w => Cf s w + Bf ((s * V + w) % stN V N (d + 1))) (am (fun w => Cf s w + Bf ((s * V + w) % stN V N (d + 1))) V) : Int)) := by
  have hl1 := pow_lim (V := V) (ch := min d (N - 1)) hV (by omega)
  have hl2 := pow_lim (V := V) (ch := min (d + 1) (N - 1)) hV (by omega)
  have hst1 : stN V N d ≤ 144 := hl1.2
  have hst2 : 1 ≤ stN V N (d + 1) ∧ stN V N (d + 1) ≤ 144 := hl2
  have hlb1 := lb_cs zl
  have hlb2 := lb_cs zb
  refine Ct.of (own := RX3) rfl (by decide +kernel) (Nat.le_of_ble_eq_true rfl) rfl (fun Γ h => ?_)
  refine w_aload_n h (pc := 0) dX3_chooseAt_0 rfl ?_
  refine g3_ledger h (pc := 1) wm_74 dX3_chooseAt_1 ?_
  refine g1_words h (pc := 4) eV wm_414 dX3_chooseAt_4 ?_
  refine w_istore_n h (pc := 7) dX3_chooseAt_7 (by decide) ?_
  refine w_aload_n h (pc := 8) dX3_chooseAt_8 rfl ?_
  refine w_iload_n h (pc := 9) dX3_chooseAt_9 rfl ?_
  refine w_callV1 h (pc := 10) (mX3_statesAt l D κ a ε V N u hV hN eV eN d (by omega)) 3 rfl rfl (gdV wm_426 wm_427 wm_428 wm_23 wm_429) (by decide +kernel) ⟨(Nat.le_of_ble_eq_true rfl), (Nat.le_of_ble_eq_true rfl)⟩ ⟨(Nat.le_of_ble_eq_true rfl), (Nat.le_of_ble_eq_true rfl)⟩ (fun _ _ _ => ⟨rfl, rfl⟩) (Nat.le_of_ble_eq_true rfl) dX3_chooseAt_10 (fun v1 u1 hp1 => ?_)
  obtain ⟨rfl, e1⟩ := hp1
  obtain rfl := e1.symm
  simp only [Option.toList_some, List.cons_append, List.nil_append]
  refine w_istore_n h (pc := 13) dX3_chooseAt_13 (by decide) ?_
  refine w_aload_n h (pc := 14) dX3_chooseAt_14 rfl ?_
  refine w_iload_n h (pc := 15) dX3_chooseAt_15 rfl ?_
  refine w_iconst h (pc := 16) dX3_chooseAt_16 ?_
  refine w_iadd h (pc := 17) dX3_chooseAt_17 ?_
  refine w_callV1 h (pc := 18) (mX3_statesAt l D κ a ε V N u hV hN eV eN (d + 1) (by omega)) 3 rfl rfl (gdV wm_426 wm_427 wm_428 wm_23 wm_429) (by decide +kernel) ⟨(Nat.le_of_ble_eq_true rfl), (Nat.le_of_ble_eq_true rfl)⟩ ⟨(Nat.le_of_ble_eq_true rfl), (Nat.le_of_ble_eq_true rfl)⟩ (fun _ _ _ => ⟨rfl, rfl⟩) (Nat.le_of_ble_eq_true rfl) dX3_chooseAt_18 (fun v2 u2 hp2 => ?_)
  obtain ⟨rfl, e2⟩ := hp2
  obtain rfl := e2.symm
  simp only [Option.toList_some, List.cons_append, List.nil_append]
  refine w_istore h (pc := 21) dX3_chooseAt_21 (by decide) ?_
  refine w_iconst h (pc := 23) dX3_chooseAt_23 ?_
  refine w_istore h (pc := 24) dX3_chooseAt_24 (by decide) ?_
  have lp26 : ∀ (n9 s : Nat) (w : US), stN V N d < s + n9 → s ≤ stN V N d → Fr [] [lb zl, 18 + d] u w → (∀ s9, s9 < s → w.2 (18 + d) s9 = (am (fun w => Cf s9 w + Bf ((s9 * V + w) % stN V N (d + 1))) V : Int) ∧ w.2 (lb zl) s9 = ((fun w => Cf s9 w + Bf ((s9 * V + w) % stN V N (d + 1))) (am (fun w => Cf s9 w + Bf ((s9 * V + w) % stN V N (d + 1))) V) : Int)) → WW Γ 11 w 26 [(0, .ref (a 3)), (1, .int (iI (d : Int))), (2, .int (iI (V : Int))), (3, .int (iI (stN V N d : Int))), (4, .int (iI (stN V N (d + 1) : Int))), (5, .int (iI (s : Int)))] [] := by
    intro n9
    induction n9 with
    | zero => intro s w hn9 hs hF ht; exfalso; omega
    | succ n9 ih =>
      intro s w hn9 hs hF ht
      refine w_iload h (pc := 26) dX3_chooseAt_26 rfl ?_
      refine w_iload_n h (pc := 28) dX3_chooseAt_28 rfl ?_
      refine w_icmp_ge h (pc := 29) (tgt := 134) dX3_chooseAt_29 (by decide) (by omega) (by omega) (fun c29 => ?_) (fun c29 => ?_)
      · obtain rfl : s = stN V N d := by omega
        exact w_vret h (pc := 134) rfl dX3_chooseAt_134 (Nat.le_of_ble_eq_true rfl) (Nat.le_of_ble_eq_true rfl) ⟨rfl, hF, ht⟩
      · have ih_2 := ih
        have hfl : ∀ x, x < V → (fun w => Cf s w + Bf ((s * V + w) % stN V N (d + 1))) x ≤ 240000 := fun x hx => by
          have h1 := (hC s (by omega) x (by omega)).2
          have h2 := (hB ((s * V + x) % stN V N (d + 1)) (Nat.mod_lt _ (by omega))).2
          show Cf s x + _ ≤ _
          omega
        refine w_iconst h (pc := 32) dX3_chooseAt_32 ?_
        refine w_istore h (pc := 33) dX3_chooseAt_33 (by decide) ?_
        refine w_iconst h (pc := 35) dX3_chooseAt_35 ?_
        refine w_istore h (pc := 36) dX3_chooseAt_36 (by decide) ?_
        refine w_iconst h (pc := 38) dX3_chooseAt_38 ?_
        refine w_istore h (pc := 39) dX3_chooseAt_39 (by decide) ?_
        have lp41 : ∀ (n9 x : Nat) (b bc : Int), V < x + n9 → x ≤ V → b = (am (fun w => Cf s w + Bf ((s * V + w) % stN V N (d + 1))) x : Int) → bc = (if x = 0 then 0 else ((fun w => Cf s w + Bf ((s * V + w) % stN V N (d + 1))) (am (fun w => Cf s w + Bf ((s * V + w) % stN V N (d + 1))) x) : Int)) → WW Γ 11 w 41 [(0, .ref (a 3)), (1, .int (iI (d : Int))), (2, .int (iI (V : Int))), (3, .int (iI (stN V N d : Int))), (4, .int (iI (stN V N (d + 1) : Int))), (5, .int (iI (s : Int))), (6, .int (iI b)), (7, .int (iI bc)), (8, .int (iI (x : Int)))] [] := by
          intro n9
          induction n9 with
          | zero => intro x b bc hn8 hx hb hbc; exfalso; omega
          | succ n9 ih =>
            intro x b bc hn8 hx hb hbc
            refine w_iload h (pc := 41) dX3_chooseAt_41 rfl ?_
            refine w_iload_n h (pc := 43) dX3_chooseAt_43 rfl ?_
            refine w_icmp_ge h (pc := 44) (tgt := 108) dX3_chooseAt_44 (by decide) (by omega) (by omega) (fun c44 => ?_) (fun c44 => ?_)
            · obtain rfl : V = x := by omega
              have hamV := am_lt (f := (fun w => Cf s w + Bf ((s * V + w) % stN V N (d + 1)))) (n := V) (by omega)
              refine w_aload_n h (pc := 108) dX3_chooseAt_108 rfl ?_
              refine g3_least h (pc := 109) ((hF.1 10 (by simp)).trans e10) wm_72 dX3_chooseAt_109 ?_
              refine w_iload h (pc := 112) dX3_chooseAt_112 rfl ?_
              refine w_iload h (pc := 114) dX3_chooseAt_114 rfl ?_
              refine st_lb h (pc := 116) (by omega) dX3_chooseAt_116 ?_
              refine w_aload_n h (pc := 117) dX3_chooseAt_117 rfl ?_
              refine g3_choices h (pc := 118) wm_71 dX3_chooseAt_118 ?_
              refine w_iload_n h (pc := 121) dX3_chooseAt_121 rfl ?_
              refine ld_choices h (pc := 122) (by omega) (q := 18 + d) (by omega) dX3_chooseAt_122 ?_
              refine w_iload h (pc := 123) dX3_chooseAt_123 rfl ?_
              refine w_iload h (pc := 125) dX3_chooseAt_125 rfl ?_
              refine st_ch h (pc := 127) (by omega) (by omega) dX3_chooseAt_127 ?_
              refine w_iinc h (pc := 128) dX3_chooseAt_128 rfl (by decide) ?_
              refine w_goto h (pc := 131) (tgt := 26) dX3_chooseAt_131 (by decide) ?_
              refine WW.sub (by rfl) (ih_2 (s + 1) _ (by omega) (by omega) ((hF.tr (Fr.A (by simp))).tr (Fr.A (by simp))) (fun s9 h9 => ?_))
              by_cases e : s9 = s
              · subst e
                rw [uA_at, uA_ne _ _ (by omega), uA_ne _ _ (by omega), uA_at]
                unfold upI
                rw [Int.toNat_natCast, if_pos rfl, if_pos rfl, hb, hbc, if_neg (by omega)]
                exact ⟨rfl, rfl⟩
              · rw [uA_at, uA_ne _ _ (by omega), uA_ne _ _ (by omega), uA_at]
                unfold upI
                rw [Int.toNat_natCast, if_neg e, if_neg e]
                exact ht s9 (by omega)
            · obtain ⟨q, hq⟩ : ∃ q, q = s * V := ⟨_, rfl⟩
              have hql : q ≤ 144 * 12 := by rw [hq]; exact Nat.mul_le_mul (by omega) hV.2
              obtain ⟨r, hr⟩ : ∃ r, r = (q + x) % stN V N (d + 1) := ⟨_, rfl⟩
              have hrl : r < stN V N (d + 1) := by rw [hr]; exact Nat.mod_lt _ (by omega)
              have hBr := hB r hrl
              have hBw : w.2 (lb zb) r = (Bf r : Int) := by rw [hF.2 (lb zb) (by simp; omega)]; exact hBr.1
              have hCr := hC s (by omega) x (by omega)
              have hCw : w.2 11 (s * 13 + x) = (Cf s x : Int) := by rw [hF.2 11 (by simp; omega)]; exact hCr.1
              have hfx : (fun w => Cf s w + Bf ((s * V + w) % stN V N (d + 1))) x = Cf s x + Bf r := by rw [hr, hq]
              have hci : ((s : Int) * 13 + (x : Int)).toNat = s * 13 + x := by omega
              refine w_aload_n h (pc := 47) dX3_chooseAt_47 rfl ?_
              refine g3_leastBehind h (pc := 48) ((hF.1 20 (by simp)).trans e20) wm_73 dX3_chooseAt_48 ?_
              refine w_iload h (pc := 51) dX3_chooseAt_51 rfl ?_
              refine w_iload_n h (pc := 53) dX3_chooseAt_53 rfl ?_
              refine w_imul h (pc := 54) dX3_chooseAt_54 ?_
              refine w_iload h (pc := 55) dX3_chooseAt_55 rfl ?_
              rw [show ((s : Int) * (V : Int)) = (q : Int) by rw [hq]; rfl]
              refine w_iadd h (pc := 57) dX3_chooseAt_57 ?_
              refine w_iload h (pc := 58) dX3_chooseAt_58 rfl ?_
              refine w_irem h (pc := 60) dX3_chooseAt_60 (by omega) (by omega) ?_
              rw [show ((q : Int) + (x : Int)) % (stN V N (d + 1) : Int) = (r : Int) by rw [hr]; rfl]
              refine ld_lb h (pc := 61) (by omega) hBw dX3_chooseAt_61 ?_
              refine w_istore h (pc := 62) dX3_chooseAt_62 (by decide) ?_
              refine w_aload_n h (pc := 64) dX3_chooseAt_64 rfl ?_
              refine g3_costs h (pc := 65) wm_69 dX3_chooseAt_65 ?_
              refine w_iload h (pc := 68) dX3_chooseAt_68 rfl ?_
              refine w_bipush h (pc := 70) dX3_chooseAt_70 (by decide) ?_
              refine w_imul h (pc := 72) dX3_chooseAt_72 ?_
              refine w_iload h (pc := 73) dX3_chooseAt_73 rfl ?_
              refine w_iadd h (pc := 75) dX3_chooseAt_75 ?_
              refine ld_costs h (pc := 76) (by omega) ((congrArg (w.2 11) hci).trans hCw) dX3_chooseAt_76 ?_
              refine w_iload h (pc := 77) dX3_chooseAt_77 rfl ?_
              refine w_iadd h (pc := 79) dX3_chooseAt_79 ?_
              refine w_istore h (pc := 80) dX3_chooseAt_80 (by decide) ?_
              have hamx : am (fun w => Cf s w + Bf ((s * V + w) % stN V N (d + 1))) (x + 1) = if x = 0 ∨ (fun w => Cf s w + Bf ((s * V + w) % stN V N (d + 1))) x < (fun w => Cf s w + Bf ((s * V + w) % stN V N (d + 1))) (am (fun w => Cf s w + Bf ((s * V + w) % stN V N (d + 1))) x) then x else am (fun w => Cf s w + Bf ((s * V + w) % stN V N (d + 1))) x := rfl
              have hbx : x ≠ 0 → bc = ((fun w => Cf s w + Bf ((s * V + w) % stN V N (d + 1))) (am (fun w => Cf s w + Bf ((s * V + w) % stN V N (d + 1))) x) : Int) := fun z => by rw [hbc, if_neg z]
              have hbl : -1 ≤ bc ∧ bc ≤ 300000 := by
                by_cases z : x = 0
                · rw [hbc, if_pos z]; omega
                · have h1 := hfl (am (fun w => Cf s w + Bf ((s * V + w) % stN V N (d + 1))) x) (by have := am_lt (f := (fun w => Cf s w + Bf ((s * V + w) % stN V N (d + 1)))) (n := x) (by omega); omega)
                  rw [hbx z]; omega
              refine w_iload h (pc := 82) dX3_chooseAt_82 rfl ?_
              refine w_if_eq h (pc := 84) (tgt := 94) dX3_chooseAt_84 (by decide) (by omega) (fun c84 => ?_) (fun c84 => ?_)
              · refine w_iload h (pc := 94) dX3_chooseAt_94 rfl ?_
                refine w_istore h (pc := 96) dX3_chooseAt_96 (by decide) ?_
                refine w_iload h (pc := 98) dX3_chooseAt_98 rfl ?_
                refine w_istore h (pc := 100) dX3_chooseAt_100 (by decide) ?_
                refine w_iinc h (pc := 102) dX3_chooseAt_102 rfl (by decide) ?_
                refine w_goto h (pc := 105) (tgt := 41) dX3_chooseAt_105 (by decide) ?_
                first
                | exact WW.sub (by rfl) (ih (x + 1) (x : Int) ((Cf s x : Int) + (Bf r : Int)) (by omega) (by omega) (by rw [hamx, if_pos (by rw [hfx]; omega)]) (by rw [if_neg (by omega), hamx, if_pos (by rw [hfx]; omega), hfx]; rfl))
                | exact WW.sub (by rfl) (ih (x + 1) b bc (by omega) (by omega) (by rw [hamx, if_neg (by rw [hfx]; omega)]; exact hb) (by rw [if_neg (by omega), hamx, if_neg (by rw [hfx]; omega), hbc, if_neg (by omega)]))
              · refine w_iload h (pc := 87) dX3_chooseAt_87 rfl ?_
                refine w_iload h (pc := 89) dX3_chooseAt_89 rfl ?_
                refine w_icmp_ge h (pc := 91) (tgt := 102) dX3_chooseAt_91 (by decide) (by omega) (by omega) (fun c91 => ?_) (fun c91 => ?_)
                · refine w_iinc h (pc := 102) dX3_chooseAt_102 rfl (by decide) ?_
                  refine w_goto h (pc := 105) (tgt := 41) dX3_chooseAt_105 (by decide) ?_
                  first
                  | exact WW.sub (by rfl) (ih (x + 1) (x : Int) ((Cf s x : Int) + (Bf r : Int)) (by omega) (by omega) (by rw [hamx, if_pos (by rw [hfx]; omega)]) (by rw [if_neg (by omega), hamx, if_pos (by rw [hfx]; omega), hfx]; rfl))
                  | exact WW.sub (by rfl) (ih (x + 1) b bc (by omega) (by omega) (by rw [hamx, if_neg (by rw [hfx]; omega)]; exact hb) (by rw [if_neg (by omega), hamx, if_neg (by rw [hfx]; omega), hbc, if_neg (by omega)]))
                · refine w_iload h (pc := 94) dX3_chooseAt_94 rfl ?_
                  refine w_istore h (pc := 96) dX3_chooseAt_96 (by decide) ?_
                  refine w_iload h (pc := 98) dX3_chooseAt_98 rfl ?_
                  refine w_istore h (pc := 100) dX3_chooseAt_100 (by decide) ?_
                  refine w_iinc h (pc := 102) dX3_chooseAt_102 rfl (by decide) ?_
                  refine w_goto h (pc := 105) (tgt := 41) dX3_chooseAt_105 (by decide) ?_
                  first
                  | exact WW.sub (by rfl) (ih (x + 1) (x : Int) ((Cf s x : Int) + (Bf r : Int)) (by omega) (by omega) (by rw [hamx, if_pos (by rw [hfx]; omega)]) (by rw [if_neg (by omega), hamx, if_pos (by rw [hfx]; omega), hfx]; rfl))
                  | exact WW.sub (by rfl) (ih (x + 1) b bc (by omega) (by omega) (by rw [hamx, if_neg (by rw [hfx]; omega)]; exact hb) (by rw [if_neg (by omega), hamx, if_neg (by rw [hfx]; omega), hbc, if_neg (by omega)]))
        exact WW.sub (by rfl) (lp41 (V + 1) 0 0 0 (by omega) (by omega) rfl rfl)
  exact WW.sub (by rfl) (lp26 (stN V N d + 1) 0 u (by omega) (by omega) Fr.rfl (fun s9 h9 => absurd h9 (Nat.not_lt_zero s9)))
end
section
theorem dX3_choiceAt_0 : decode cX3_choiceAt 0 = .ok (.iload_n 1, 1) := by decide +kernel
theorem dX3_choiceAt_1 : decode cX3_choiceAt 1 = .ok (.ifCond .lt 20, 3) := by decide +kernel
theorem dX3_choiceAt_4 : decode cX3_choiceAt 4 = .ok (.iload_n 1, 1) := by decide +kernel
theorem dX3_choiceAt_5 : decode cX3_choiceAt 5 = .ok (.bipush 12, 2) := by decide +kernel
theorem dX3_choiceAt_7 : decode cX3_choiceAt 7 = .ok (.if_icmp .ge 14, 3) := by decide +kernel
theorem dX3_choiceAt_10 : decode cX3_choiceAt 10 = .ok (.iload_n 2, 1) := by decide +kernel
theorem dX3_choiceAt_11 : decode cX3_choiceAt 11 = .ok (.ifCond .lt 10, 3) := by decide +kernel
theorem dX3_choiceAt_14 : decode cX3_choiceAt 14 = .ok (.iload_n 2, 1) := by decide +kernel
theorem dX3_choiceAt_15 : decode cX3_choiceAt 15 = .ok (.sipush 1728, 3) := by decide +kernel
theorem dX3_choiceAt_18 : decode cX3_choiceAt 18 = .ok (.if_icmp .lt 5, 3) := by decide +kernel
theorem dX3_choiceAt_23 : decode cX3_choiceAt 23 = .ok (.aload_n 0, 1) := by decide +kernel
theorem dX3_choiceAt_24 : decode cX3_choiceAt 24 = .ok (.getfield 17, 3) := by decide +kernel
theorem dX3_choiceAt_27 : decode cX3_choiceAt 27 = .ok (.iload_n 1, 1) := by decide +kernel
theorem dX3_choiceAt_28 : decode cX3_choiceAt 28 = .ok (.aaload, 1) := by decide +kernel
theorem dX3_choiceAt_29 : decode cX3_choiceAt 29 = .ok (.iload_n 2, 1) := by decide +kernel
theorem dX3_choiceAt_30 : decode cX3_choiceAt 30 = .ok (.iaload, 1) := by decide +kernel
theorem dX3_choiceAt_31 : decode cX3_choiceAt 31 = .ok (.ireturn, 1) := by decide +kernel
theorem dX3_choose_0 : decode cX3_choose 0 = .ok (.aload_n 0, 1) := by decide +kernel
theorem dX3_choose_1 : decode cX3_choose 1 = .ok (.iload_n 1, 1) := by decide +kernel
theorem dX3_choose_2 : decode cX3_choose 2 = .ok (.iload_n 2, 1) := by decide +kernel
theorem dX3_choose_3 : decode cX3_choose 3 = .ok (.invokevirtual 34, 3) := by decide +kernel
theorem dX3_choose_6 : decode cX3_choose 6 = .ok (.iconst 0, 1) := by decide +kernel
theorem dX3_choose_7 : decode cX3_choose 7 = .ok (.istore_n 3, 1) := by decide +kernel
theorem dX3_choose_8 : decode cX3_choose 8 = .ok (.iload_n 3, 1) := by decide +kernel
theorem dX3_choose_9 : decode cX3_choose 9 = .ok (.aload_n 0, 1) := by decide +kernel
theorem dX3_choose_10 : decode cX3_choose 10 = .ok (.iload_n 2, 1) := by decide +kernel
theorem dX3_choose_11 : decode cX3_choose 11 = .ok (.invokevirtual 38, 3) := by decide +kernel
theorem dX3_choose_14 : decode cX3_choose 14 = .ok (.if_icmp .ge 32, 3) := by decide +kernel
theorem dX3_choose_17 : decode cX3_choose 17 = .ok (.aload_n 0, 1) := by decide +kernel
theorem dX3_choose_18 : decode cX3_choose 18 = .ok (.getfield 20, 3) := by decide +kernel
theorem dX3_choose_21 : decode cX3_choose 21 = .ok (.iload_n 3, 1) := by decide +kernel
theorem dX3_choose_22 : decode cX3_choose 22 = .ok (.aload_n 0, 1) := by decide +kernel
theorem dX3_choose_23 : decode cX3_choose 23 = .ok (.getfield 11, 3) := by decide +kernel
theorem dX3_choose_26 : decode cX3_choose 26 = .ok (.iload_n 3, 1) := by decide +kernel
theorem dX3_choose_27 : decode cX3_choose 27 = .ok (.bipush 13, 2) := by decide +kernel
theorem dX3_choose_29 : decode cX3_choose 29 = .ok (.imul, 1) := by decide +kernel
theorem dX3_choose_30 : decode cX3_choose 30 = .ok (.aload_n 0, 1) := by decide +kernel
theorem dX3_choose_31 : decode cX3_choose 31 = .ok (.getfield 26, 3) := by decide +kernel
theorem dX3_choose_34 : decode cX3_choose 34 = .ok (.getfield 42, 3) := by decide +kernel
theorem dX3_choose_37 : decode cX3_choose 37 = .ok (.iadd, 1) := by decide +kernel
theorem dX3_choose_38 : decode cX3_choose 38 = .ok (.iaload, 1) := by decide +kernel
theorem dX3_choose_39 : decode cX3_choose 39 = .ok (.iastore, 1) := by decide +kernel
theorem dX3_choose_40 : decode cX3_choose 40 = .ok (.iinc 3 1, 3) := by decide +kernel
theorem dX3_choose_43 : decode cX3_choose 43 = .ok (.goto (-35), 3) := by decide +kernel
theorem dX3_choose_46 : decode cX3_choose 46 = .ok (.iload_n 2, 1) := by decide +kernel
theorem dX3_choose_47 : decode cX3_choose 47 = .ok (.iconst 1, 1) := by decide +kernel
theorem dX3_choose_48 : decode cX3_choose 48 = .ok (.isub, 1) := by decide +kernel
theorem dX3_choose_49 : decode cX3_choose 49 = .ok (.istore_n 3, 1) := by decide +kernel
theorem dX3_choose_50 : decode cX3_choose 50 = .ok (.iload_n 3, 1) := by decide +kernel
theorem dX3_choose_51 : decode cX3_choose 51 = .ok (.ifCond .lt 53, 3) := by decide +kernel
theorem dX3_choose_54 : decode cX3_choose 54 = .ok (.iload_n 3, 1) := by decide +kernel
theorem dX3_choose_55 : decode cX3_choose 55 = .ok (.aload_n 0, 1) := by decide +kernel
theorem dX3_choose_56 : decode cX3_choose 56 = .ok (.getfield 26, 3) := by decide +kernel
theorem dX3_choose_59 : decode cX3_choose 59 = .ok (.getfield 48, 3) := by decide +kernel
theorem dX3_choose_62 : decode cX3_choose 62 = .ok (.iconst 1, 1) := by decide +kernel
theorem dX3_choose_63 : decode cX3_choose 63 = .ok (.isub, 1) := by decide +kernel
theorem dX3_choose_64 : decode cX3_choose 64 = .ok (.if_icmp .ge 9, 3) := by decide +kernel
theorem dX3_choose_67 : decode cX3_choose 67 = .ok (.aload_n 0, 1) := by decide +kernel
theorem dX3_choose_68 : decode cX3_choose 68 = .ok (.iload_n 1, 1) := by decide +kernel
theorem dX3_choose_69 : decode cX3_choose 69 = .ok (.iload_n 3, 1) := by decide +kernel
theorem dX3_choose_70 : decode cX3_choose 70 = .ok (.invokevirtual 34, 3) := by decide +kernel
theorem dX3_choose_73 : decode cX3_choose 73 = .ok (.aload_n 0, 1) := by decide +kernel
theorem dX3_choose_74 : decode cX3_choose 74 = .ok (.getfield 23, 3) := by decide +kernel
theorem dX3_choose_77 : decode cX3_choose 77 = .ok (.astore 4, 2) := by decide +kernel
theorem dX3_choose_79 : decode cX3_choose 79 = .ok (.aload_n 0, 1) := by decide +kernel
theorem dX3_choose_80 : decode cX3_choose 80 = .ok (.aload_n 0, 1) := by decide +kernel
theorem dX3_choose_81 : decode cX3_choose 81 = .ok (.getfield 20, 3) := by decide +kernel
theorem dX3_choose_84 : decode cX3_choose 84 = .ok (.putfield 23, 3) := by decide +kernel
theorem dX3_choose_87 : decode cX3_choose 87 = .ok (.aload_n 0, 1) := by decide +kernel
theorem dX3_choose_88 : decode cX3_choose 88 = .ok (.aload 4, 2) := by decide +kernel
theorem dX3_choose_90 : decode cX3_choose 90 = .ok (.putfield 20, 3) := by decide +kernel
theorem dX3_choose_93 : decode cX3_choose 93 = .ok (.aload_n 0, 1) := by decide +kernel
theorem dX3_choose_94 : decode cX3_choose 94 = .ok (.iload_n 3, 1) := by decide +kernel
theorem dX3_choose_95 : decode cX3_choose 95 = .ok (.invokevirtual 51, 3) := by decide +kernel
theorem dX3_choose_98 : decode cX3_choose 98 = .ok (.iinc 3 (-1), 3) := by decide +kernel
theorem dX3_choose_101 : decode cX3_choose 101 = .ok (.goto (-51), 3) := by decide +kernel
theorem dX3_choose_104 : decode cX3_choose 104 = .ok (.return_, 1) := by decide +kernel
theorem dX3_stateBehind_0 : decode cX3_stateBehind 0 = .ok (.iload_n 2, 1) := by decide +kernel
theorem dX3_stateBehind_1 : decode cX3_stateBehind 1 = .ok (.aload_n 0, 1) := by decide +kernel
theorem dX3_stateBehind_2 : decode cX3_stateBehind 2 = .ok (.getfield 26, 3) := by decide +kernel
theorem dX3_stateBehind_5 : decode cX3_stateBehind 5 = .ok (.getfield 42, 3) := by decide +kernel
theorem dX3_stateBehind_8 : decode cX3_stateBehind 8 = .ok (.imul, 1) := by decide +kernel
theorem dX3_stateBehind_9 : decode cX3_stateBehind 9 = .ok (.iload_n 3, 1) := by decide +kernel
theorem dX3_stateBehind_10 : decode cX3_stateBehind 10 = .ok (.iadd, 1) := by decide +kernel
theorem dX3_stateBehind_11 : decode cX3_stateBehind 11 = .ok (.aload_n 0, 1) := by decide +kernel
theorem dX3_stateBehind_12 : decode cX3_stateBehind 12 = .ok (.iload_n 1, 1) := by decide +kernel
theorem dX3_stateBehind_13 : decode cX3_stateBehind 13 = .ok (.iconst 1, 1) := by decide +kernel
theorem dX3_stateBehind_14 : decode cX3_stateBehind 14 = .ok (.iadd, 1) := by decide +kernel
theorem dX3_stateBehind_15 : decode cX3_stateBehind 15 = .ok (.invokevirtual 38, 3) := by decide +kernel
theorem dX3_stateBehind_18 : decode cX3_stateBehind 18 = .ok (.irem, 1) := by decide +kernel
theorem dX3_stateBehind_19 : decode cX3_stateBehind 19 = .ok (.ireturn, 1) := by decide +kernel
theorem dX5_complete_0 : decode cX5_complete 0 = .ok (.iload_n 1, 1) := by decide +kernel
theorem dX5_complete_1 : decode cX5_complete 1 = .ok (.aload_n 0, 1) := by decide +kernel
theorem dX5_complete_2 : decode cX5_complete 2 = .ok (.getfield 51, 3) := by decide +kernel
theorem dX5_complete_5 : decode cX5_complete 5 = .ok (.if_icmp .lt 9, 3) := by decide +kernel
theorem dX5_complete_8 : decode cX5_complete 8 = .ok (.iload_n 1, 1) := by decide +kernel
theorem dX5_complete_9 : decode cX5_complete 9 = .ok (.bipush 12, 2) := by decide +kernel
theorem dX5_complete_11 : decode cX5_complete 11 = .ok (.if_icmp .le 13, 3) := by decide +kernel
theorem dX5_complete_24 : decode cX5_complete 24 = .ok (.aload_n 0, 1) := by decide +kernel
theorem dX5_complete_25 : decode cX5_complete 25 = .ok (.getfield 10, 3) := by decide +kernel
theorem dX5_complete_28 : decode cX5_complete 28 = .ok (.getfield 65, 3) := by decide +kernel
theorem dX5_complete_31 : decode cX5_complete 31 = .ok (.ifCond .ne 13, 3) := by decide +kernel
theorem dX5_complete_44 : decode cX5_complete 44 = .ok (.iload_n 1, 1) := by decide +kernel
theorem dX5_complete_45 : decode cX5_complete 45 = .ok (.aload_n 0, 1) := by decide +kernel
theorem dX5_complete_46 : decode cX5_complete 46 = .ok (.getfield 51, 3) := by decide +kernel
theorem dX5_complete_49 : decode cX5_complete 49 = .ok (.isub, 1) := by decide +kernel
theorem dX5_complete_50 : decode cX5_complete 50 = .ok (.istore_n 2, 1) := by decide +kernel
theorem dX5_complete_51 : decode cX5_complete 51 = .ok (.aload_n 0, 1) := by decide +kernel
theorem dX5_complete_52 : decode cX5_complete 52 = .ok (.getfield 30, 3) := by decide +kernel
theorem dX5_complete_55 : decode cX5_complete 55 = .ok (.aload_n 0, 1) := by decide +kernel
theorem dX5_complete_56 : decode cX5_complete 56 = .ok (.aload_n 0, 1) := by decide +kernel
theorem dX5_complete_57 : decode cX5_complete 57 = .ok (.getfield 51, 3) := by decide +kernel
theorem dX5_complete_60 : decode cX5_complete 60 = .ok (.iconst 1, 1) := by decide +kernel
theorem dX5_complete_61 : decode cX5_complete 61 = .ok (.isub, 1) := by decide +kernel
theorem dX5_complete_62 : decode cX5_complete 62 = .ok (.aload_n 0, 1) := by decide +kernel
theorem dX5_complete_63 : decode cX5_complete 63 = .ok (.getfield 10, 3) := by decide +kernel
theorem dX5_complete_66 : decode cX5_complete 66 = .ok (.getfield 83, 3) := by decide +kernel
theorem dX5_complete_69 : decode cX5_complete 69 = .ok (.iconst 1, 1) := by decide +kernel
theorem dX5_complete_70 : decode cX5_complete 70 = .ok (.isub, 1) := by decide +kernel
theorem dX5_complete_71 : decode cX5_complete 71 = .ok (.invokevirtual 202, 3) := by decide +kernel
theorem dX5_complete_74 : decode cX5_complete 74 = .ok (.iload_n 2, 1) := by decide +kernel
theorem dX5_complete_75 : decode cX5_complete 75 = .ok (.invokevirtual 205, 3) := by decide +kernel
theorem dX5_complete_78 : decode cX5_complete 78 = .ok (.iconst 0, 1) := by decide +kernel
theorem dX5_complete_79 : decode cX5_complete 79 = .ok (.istore_n 3, 1) := by decide +kernel
theorem dX5_complete_80 : decode cX5_complete 80 = .ok (.iconst 0, 1) := by decide +kernel
theorem dX5_complete_81 : decode cX5_complete 81 = .ok (.istore 4, 2) := by decide +kernel
theorem dX5_complete_83 : decode cX5_complete 83 = .ok (.iload 4, 2) := by decide +kernel
theorem dX5_complete_85 : decode cX5_complete 85 = .ok (.iload_n 2, 1) := by decide +kernel
theorem dX5_complete_86 : decode cX5_complete 86 = .ok (.if_icmp .ge 40, 3) := by decide +kernel
theorem dX5_complete_89 : decode cX5_complete 89 = .ok (.aload_n 0, 1) := by decide +kernel
theorem dX5_complete_90 : decode cX5_complete 90 = .ok (.getfield 30, 3) := by decide +kernel
theorem dX5_complete_93 : decode cX5_complete 93 = .ok (.iload 4, 2) := by decide +kernel
theorem dX5_complete_95 : decode cX5_complete 95 = .ok (.iload_n 3, 1) := by decide +kernel
theorem dX5_complete_96 : decode cX5_complete 96 = .ok (.invokevirtual 209, 3) := by decide +kernel
theorem dX5_complete_99 : decode cX5_complete 99 = .ok (.istore 5, 2) := by decide +kernel
theorem dX5_complete_101 : decode cX5_complete 101 = .ok (.aload_n 0, 1) := by decide +kernel
theorem dX5_complete_102 : decode cX5_complete 102 = .ok (.iload 5, 2) := by decide +kernel
theorem dX5_complete_104 : decode cX5_complete 104 = .ok (.invokevirtual 97, 3) := by decide +kernel
theorem dX5_complete_107 : decode cX5_complete 107 = .ok (.aload_n 0, 1) := by decide +kernel
theorem dX5_complete_108 : decode cX5_complete 108 = .ok (.getfield 30, 3) := by decide +kernel
theorem dX5_complete_111 : decode cX5_complete 111 = .ok (.iload 4, 2) := by decide +kernel
theorem dX5_complete_113 : decode cX5_complete 113 = .ok (.iload_n 3, 1) := by decide +kernel
theorem dX5_complete_114 : decode cX5_complete 114 = .ok (.iload 5, 2) := by decide +kernel
theorem dX5_complete_116 : decode cX5_complete 116 = .ok (.invokevirtual 212, 3) := by decide +kernel
theorem dX5_complete_119 : decode cX5_complete 119 = .ok (.istore_n 3, 1) := by decide +kernel
theorem dX5_complete_120 : decode cX5_complete 120 = .ok (.iinc 4 1, 3) := by decide +kernel
theorem dX5_complete_123 : decode cX5_complete 123 = .ok (.goto (-40), 3) := by decide +kernel
theorem dX5_complete_126 : decode cX5_complete 126 = .ok (.aload_n 0, 1) := by decide +kernel
theorem dX5_complete_127 : decode cX5_complete 127 = .ok (.invokevirtual 197, 3) := by decide +kernel
theorem dX5_complete_130 : decode cX5_complete 130 = .ok (.ireturn, 1) := by decide +kernel
theorem gs_ok {z : Int} {dd q : Nat} (hd : dd ≤ 1) (hq : q ∈ [lb z, 18 + dd]) : q ∈ [9, 10, 11, 13, 14, 18, 19] := by
  have h := lb_cs z
  simp only [List.mem_cons, List.not_mem_nil, or_false] at hq ⊢
  omega
set_option maxHeartbeats 4000000 in
set_option maxRecDepth 100000 in
theorem mX3_choose (l : Launch) (D : va_G) (κ a : Nat → Nat) (ε : Nat) (V N way num m : Nat) (S : List Nat) (T : Nat → List (Nat × Nat)) (u : US) (hA : AB V N way num m S T u) (hV1 : 1 ≤ V) (c more : Nat) (hc : c < 2744) (hmr : more ≤ 2) (hz : ((u.1 10 = 0 ∧ u.1 20 = 1) ∨ (u.1 10 = 1 ∧ u.1 20 = 0))) : Ct (W0 κ a) l D κ ε yX3_choose cX3_choose 5 none 5 123 0 0 u [.ref (a 3), .int (iI (c : Int)), .int (iI (more : Int))] (fun v u' => v = none ∧ Fr [8, 9, 10, 20] [9, 10, 11, 13, 14, 18, 19] u u' ∧ ∀ d, d < more → ∀ s, s < stN V N d → u'.2 (18 + d) s = (chD V N (CcF V N way num T c) more d s : Int)) := by
  obtain ⟨⟨hV, hN, hway, hnum, hm, hSl, hSV⟩, eV, eN, ew, en, ⟨eS, hS⟩, hT⟩ := id hA
  have hlim := pow_lim (V := V) (ch := min more (N - 1)) ⟨hV1, hV⟩ (by omega)
  have hst : stN V N more ≤ 144 := hlim.2
  have hcc : ∀ a b x, CcF V N way num T c a b x ≤ 32768 := fun a b x => co_le _
  refine Ct.of (own := RX3) rfl (by decide +kernel) (Nat.le_of_ble_eq_true rfl) rfl (fun Γ h => ?_)
  refine w_aload_n h (pc := 0) dX3_choose_0 rfl ?_
  refine w_iload_n h (pc := 1) dX3_choose_1 rfl ?_
  refine w_iload_n h (pc := 2) dX3_choose_2 rfl ?_
  refine w_callV2 h (pc := 3) (mX3_fillCosts l D κ a ε V N way num m S T u hA hV1 c more (min more (N - 1)) hc hmr rfl) 3 rfl rfl (gdV wm_416 wm_417 wm_418 wm_23 wm_419) (by decide +kernel) ⟨(Nat.le_of_ble_eq_true rfl), (Nat.le_of_ble_eq_true rfl)⟩ ⟨(Nat.le_of_ble_eq_true rfl), (Nat.le_of_ble_eq_true rfl)⟩ (fun _ _ _ => ⟨rfl, rfl⟩) (Nat.le_of_ble_eq_true rfl) dX3_choose_3 (fun v1 u1 hp1 => ?_)
  obtain ⟨rfl, hF1, ht1⟩ := hp1
  simp only [Option.toList_none, List.nil_append]
  refine w_iconst h (pc := 6) dX3_choose_6 ?_
  refine w_istore_n h (pc := 7) dX3_choose_7 (by decide) ?_
  have lp8 : ∀ (n9 s : Nat) (w : US), stN V N more < s + n9 → s ≤ stN V N more → Fr [8, 9, 10, 20] [9, 10, 11, 13, 14, 18, 19] u w → ((w.1 10 = 0 ∧ w.1 20 = 1) ∨ (w.1 10 = 1 ∧ w.1 20 = 0)) → (∀ s, s < V ^ (min more (N - 1)) → ∀ x, x ≤ V → w.2 11 (s * 13 + x) = (CcF V N way num T c (min more (N - 1)) s x : Int)) → (∀ s9, s9 < s → w.2 (lb (w.1 10)) s9 = (Lr V N (CcF V N way num T c) more 0 s9 : Int)) → WW Γ 5 w 8 [(0, .ref (a 3)), (1, .int (iI (c : Int))), (2, .int (iI (more : Int))), (3, .int (iI (s : Int)))] [] := by
    intro n9
    induction n9 with
    | zero => intro s w hn9 hs hF hzw ht hL; exfalso; omega
    | succ n9 ih =>
      intro s w hn9 hs hF hzw ht hL
      have hAw := hA.of hF (by simp [tS]) (by simp [tG]) (by simp) (by simp)
      have eVw := hAw.2.1
      have eNw := hAw.2.2.1
      have hlb := lb_cs (w.1 10)
      refine w_iload_n h (pc := 8) dX3_choose_8 rfl ?_
      refine w_aload_n h (pc := 9) dX3_choose_9 rfl ?_
      refine w_iload_n h (pc := 10) dX3_choose_10 rfl ?_
      refine w_callV1 h (pc := 11) (mX3_statesAt l D κ a ε V N w ⟨hV1, hV⟩ hN eVw eNw more hmr) 3 rfl rfl (gdV wm_426 wm_427 wm_428 wm_23 wm_429) (by decide +kernel) ⟨(Nat.le_of_ble_eq_true rfl), (Nat.le_of_ble_eq_true rfl)⟩ ⟨(Nat.le_of_ble_eq_true rfl), (Nat.le_of_ble_eq_true rfl)⟩ (fun _ _ _ => ⟨rfl, rfl⟩) (Nat.le_of_ble_eq_true rfl) dX3_choose_11 (fun v2 u2 hp2 => ?_)
      obtain ⟨rfl, e2⟩ := hp2
      obtain rfl := e2.symm
      simp only [Option.toList_some, List.cons_append, List.nil_append]
      refine w_icmp_ge h (pc := 14) (tgt := 46) dX3_choose_14 (by decide) (by omega) (by omega) (fun c14 => ?_) (fun c14 => ?_)
      · obtain rfl : stN V N more = s := by omega
        refine w_iload_n h (pc := 46) dX3_choose_46 rfl ?_
        refine w_iconst h (pc := 47) dX3_choose_47 ?_
        refine w_isub h (pc := 48) dX3_choose_48 ?_
        refine w_istore_n h (pc := 49) dX3_choose_49 (by decide) ?_
        have lp50 : ∀ (n9 k : Nat) (z : Int) (w : US), z + 1 + k = (more : Int) → more < k + n9 → k ≤ more → Fr [8, 9, 10, 20] [9, 10, 11, 13, 14, 18, 19] u w → ((w.1 10 = 0 ∧ w.1 20 = 1) ∨ (w.1 10 = 1 ∧ w.1 20 = 0)) → (∀ s, s < V ^ (min (more - k) (N - 1)) → ∀ x, x ≤ V → w.2 11 (s * 13 + x) = (CcF V N way num T c (min (more - k) (N - 1)) s x : Int)) → (∀ s, s < stN V N (more - k) → w.2 (lb (w.1 10)) s = (Lr V N (CcF V N way num T c) more k s : Int)) → (∀ d, more - k ≤ d → d < more → ∀ s, s < stN V N d → w.2 (18 + d) s = (chD V N (CcF V N way num T c) more d s : Int)) → WW Γ 5 w 50 [(0, .ref (a 3)), (1, .int (iI (c : Int))), (2, .int (iI (more : Int))), (3, .int (iI z))] [] := by
          intro n9
          induction n9 with
          | zero => intro k z w hz9 hn9 hk hF hzw ht hL hC; exfalso; omega
          | succ n9 ih =>
            intro k z w hz9 hn9 hk hF hzw ht hL hC
            have hAw := hA.of hF (by simp [tS]) (by simp [tG]) (by simp) (by simp)
            have eVw := hAw.2.1
            have eNw := hAw.2.2.1
            refine w_iload_n h (pc := 50) dX3_choose_50 rfl ?_
            refine w_if_lt h (pc := 51) (tgt := 104) dX3_choose_51 (by decide) (by omega) (fun c51 => ?_) (fun c51 => ?_)
            · obtain rfl : more = k := by omega
              exact w_vret h (pc := 104) rfl dX3_choose_104 (Nat.le_of_ble_eq_true rfl) (Nat.le_of_ble_eq_true rfl) ⟨rfl, hF, fun d hd s hs => hC d (by omega) hd s hs⟩
            · obtain ⟨dd, rfl⟩ : ∃ dd : Nat, z = (dd : Int) := ⟨z.toNat, by omega⟩
              have hdk : more - k = dd + 1 := by omega
              have jn73 : ∀ w4 : US, Fr [8, 9, 10, 20] [9, 10, 11, 13, 14, 18, 19] u w4 → ((w4.1 10 = 0 ∧ w4.1 20 = 1) ∨ (w4.1 10 = 1 ∧ w4.1 20 = 0)) → (∀ s, s < V ^ (min dd (N - 1)) → ∀ x, x ≤ V → w4.2 11 (s * 13 + x) = (CcF V N way num T c (min dd (N - 1)) s x : Int)) → (∀ s, s < stN V N (more - k) → w4.2 (lb (w4.1 10)) s = (Lr V N (CcF V N way num T c) more k s : Int)) → (∀ d, more - k ≤ d → d < more → ∀ s, s < stN V N d → w4.2 (18 + d) s = (chD V N (CcF V N way num T c) more d s : Int)) → WW Γ 5 w4 73 [(0, .ref (a 3)), (1, .int (iI (c : Int))), (2, .int (iI (more : Int))), (3, .int (iI (dd : Int)))] [] := by
                intro w4 hF4 hz4 ht4 hL4 hC4
                refine w_aload_n h (pc := 73) dX3_choose_73 rfl ?_
                refine g3_leastBehind h (pc := 74) rfl wm_73 dX3_choose_74 ?_
                refine w_astore h (pc := 77) dX3_choose_77 (by decide) ?_
                refine w_aload_n h (pc := 79) dX3_choose_79 rfl ?_
                refine w_aload_n h (pc := 80) dX3_choose_80 rfl ?_
                refine g3_least h (pc := 81) rfl wm_72 dX3_choose_81 ?_
                refine p3_leastBehind h (pc := 84) wm_73 dX3_choose_84 ?_
                refine w_aload_n h (pc := 87) dX3_choose_87 rfl ?_
                refine w_aload h (pc := 88) dX3_choose_88 rfl ?_
                refine p3_least h (pc := 90) wm_72 dX3_choose_90 ?_
                obtain ⟨w5, hw5⟩ : ∃ w5, w5 = uS (uS w4 20 (w4.1 10)) 10 (w4.1 20) := ⟨_, rfl⟩
                rw [show uS (uS w4 20 (w4.1 10)) 10 (w4.1 20) = w5 from hw5.symm]
                have f1 : w5.1 10 = w4.1 20 := by rw [hw5]; exact uS_at _ _ _
                have f2 : w5.1 20 = w4.1 10 := by rw [hw5]; exact (uS_ne _ _ (by decide)).trans (uS_at _ _ _)
                have f3 : w5.2 = w4.2 := by rw [hw5]; rfl
                have hF5 : Fr [8, 9, 10, 20] [9, 10, 11, 13, 14, 18, 19] u w5 := hF4.tr (by rw [hw5]; exact (Fr.S (by simp)).tr (Fr.S (by simp)))
                have hz5 : ((w5.1 10 = 0 ∧ w5.1 20 = 1) ∨ (w5.1 10 = 1 ∧ w5.1 20 = 0)) := by rw [f1, f2]; omega
                have hAw5 := hA.of hF5 (by simp [tS]) (by simp [tG]) (by simp) (by simp)
                have hne5 : lb (w5.1 20) ≠ lb (w5.1 10) := by rcases hz5 with ⟨e1, e2⟩ | ⟨e1, e2⟩ <;> rw [e1, e2] <;> decide
                have ht5 : (∀ s, s < V ^ (min dd (N - 1)) → ∀ x, x ≤ V → w5.2 11 (s * 13 + x) = (CcF V N way num T c (min dd (N - 1)) s x : Int)) := fun s hs x hx => by rw [f3]; exact ht4 s hs x hx
                have hL5 : ∀ s, s < stN V N (dd + 1) → w5.2 (lb (w5.1 20)) s = (Lr V N (CcF V N way num T c) more k s : Int) := fun s hs => by rw [f2, f3]; exact hL4 s (by rw [hdk]; exact hs)
                have hC5 : (∀ d, more - k ≤ d → d < more → ∀ s, s < stN V N d → w5.2 (18 + d) s = (chD V N (CcF V N way num T c) more d s : Int)) := fun d h1 h2 s hs => by rw [f3]; exact hC4 d h1 h2 s hs
                refine w_aload_n h (pc := 93) dX3_choose_93 rfl ?_
                refine w_iload_n h (pc := 94) dX3_choose_94 rfl ?_
                refine w_callV1 h (pc := 95) (mX3_chooseAt l D κ a ε V N w5 ⟨hV1, hV⟩ hN (hAw5.2.1) (hAw5.2.2.1) dd (by omega) (fun s x => CcF V N way num T c (min dd (N - 1)) s x) (fun s => Lr V N (CcF V N way num T c) more k s) (fun s hs x hx => ⟨ht5 s hs x hx, by have := hcc (min dd (N - 1)) s x; omega⟩) _ _ rfl rfl hne5 (fun s hs => ⟨hL5 s hs, by have := Lr_lim (V := V) (N := N) (more := more) hcc k s; omega⟩)) 3 rfl rfl (gdV wm_436 wm_437 wm_438 wm_23 wm_439) (by decide +kernel) ⟨(Nat.le_of_ble_eq_true rfl), (Nat.le_of_ble_eq_true rfl)⟩ ⟨(Nat.le_of_ble_eq_true rfl), (Nat.le_of_ble_eq_true rfl)⟩ (fun _ _ _ => ⟨rfl, rfl⟩) (Nat.le_of_ble_eq_true rfl) dX3_choose_95 (fun v6 u6 hp6 => ?_)
                obtain ⟨rfl, hF6, hr6⟩ := hp6
                simp only [Option.toList_none, List.nil_append]
                refine w_iinc h (pc := 98) dX3_choose_98 rfl (by decide) ?_
                refine w_goto h (pc := 101) (tgt := 50) dX3_choose_101 (by decide) ?_
                refine WW.sub (by rfl) (ih (k + 1) _ u6 (by omega) (by omega) (by omega) (hF5.tr (hF6.up (by simp) (fun q hq => gs_ok (by omega) hq))) ?_ (fun s hs x hx => ?_) (fun s hs => ?_) (fun d h1 h2 s hs => ?_))
                · rw [hF6.1 10 (by simp), hF6.1 20 (by simp)]; exact hz5
                · rw [hF6.2 11 (by have := lb_cs (w5.1 10); simp; omega)]
                  rw [show more - (k + 1) = dd by omega] at hs ⊢
                  exact ht5 s hs x hx
                · rw [show more - (k + 1) = dd by omega] at hs
                  rw [hF6.1 10 (by simp), (hr6 s hs).2, Lr_s, show more - k - 1 = dd by omega]
                  rfl
                · by_cases e : d = dd
                  · subst e
                    rw [(hr6 s hs).1]
                    unfold chD
                    rw [show more - d - 1 = k by omega]
                    rfl
                  · rw [hF6.2 (18 + d) (by have := lb_cs (w5.1 10); simp; omega)]
                    exact hC5 d (by omega) h2 s hs
              refine w_iload_n h (pc := 54) dX3_choose_54 rfl ?_
              refine w_aload_n h (pc := 55) dX3_choose_55 rfl ?_
              refine g3_ledger h (pc := 56) wm_74 dX3_choose_56 ?_
              refine g1_order h (pc := 59) eNw wm_415 dX3_choose_59 ?_
              refine w_iconst h (pc := 62) dX3_choose_62 ?_
              refine w_isub h (pc := 63) dX3_choose_63 ?_
              refine w_icmp_ge h (pc := 64) (tgt := 73) dX3_choose_64 (by decide) (by omega) (by omega) (fun c64 => ?_) (fun c64 => ?_)
              · first
                | exact WW.sub (by rfl) (jn73 u3 (hF.tr (hF3.up (by simp) (by simp))) (by rw [hF3.1 10 (by simp), hF3.1 20 (by simp)]; exact hzw) ht3 (fun s hs => by rw [hF3.1 10 (by simp), hF3.2 (lb (w.1 10)) (by have := lb_cs (w.1 10); simp; omega)]; exact hL s hs) (fun d h1 h2 s hs => by rw [hF3.2 (18 + d) (by simp; omega)]; exact hC d h1 h2 s hs))
                | exact WW.sub (by rfl) (jn73 w hF hzw (by rw [show min dd (N - 1) = min (more - k) (N - 1) by omega]; exact ht) hL hC)
              · refine w_aload_n h (pc := 67) dX3_choose_67 rfl ?_
                refine w_iload_n h (pc := 68) dX3_choose_68 rfl ?_
                refine w_iload_n h (pc := 69) dX3_choose_69 rfl ?_
                refine w_callV2 h (pc := 70) (mX3_fillCosts l D κ a ε V N way num m S T w hAw hV1 c dd (min dd (N - 1)) hc (by omega) rfl) 3 rfl rfl (gdV wm_416 wm_417 wm_418 wm_23 wm_419) (by decide +kernel) ⟨(Nat.le_of_ble_eq_true rfl), (Nat.le_of_ble_eq_true rfl)⟩ ⟨(Nat.le_of_ble_eq_true rfl), (Nat.le_of_ble_eq_true rfl)⟩ (fun _ _ _ => ⟨rfl, rfl⟩) (Nat.le_of_ble_eq_true rfl) dX3_choose_70 (fun v3 u3 hp3 => ?_)
                obtain ⟨rfl, hF3, ht3⟩ := hp3
                simp only [Option.toList_none, List.nil_append]
                first
                | exact WW.sub (by rfl) (jn73 u3 (hF.tr (hF3.up (by simp) (by simp))) (by rw [hF3.1 10 (by simp), hF3.1 20 (by simp)]; exact hzw) ht3 (fun s hs => by rw [hF3.1 10 (by simp), hF3.2 (lb (w.1 10)) (by have := lb_cs (w.1 10); simp; omega)]; exact hL s hs) (fun d h1 h2 s hs => by rw [hF3.2 (18 + d) (by simp; omega)]; exact hC d h1 h2 s hs))
                | exact WW.sub (by rfl) (jn73 w hF hzw (by rw [show min dd (N - 1) = min (more - k) (N - 1) by omega]; exact ht) hL hC)
        exact WW.sub (by rfl) (lp50 (more + 1) 0 _ w (by omega) (by omega) (by omega) hF hzw ht (fun s hs => hL s (by omega)) (fun d h1 h2 => absurd h1 (by omega)))
      · have hci : ((s : Int) * 13 + (V : Int)).toNat = s * 13 + V := by omega
        have hld := ht s (by have : V ^ min more (N - 1) = stN V N more := rfl; omega) V (Nat.le_refl V)
        refine w_aload_n h (pc := 17) dX3_choose_17 rfl ?_
        refine g3_least h (pc := 18) rfl wm_72 dX3_choose_18 ?_
        refine w_iload_n h (pc := 21) dX3_choose_21 rfl ?_
        refine w_aload_n h (pc := 22) dX3_choose_22 rfl ?_
        refine g3_costs h (pc := 23) wm_69 dX3_choose_23 ?_
        refine w_iload_n h (pc := 26) dX3_choose_26 rfl ?_
        refine w_bipush h (pc := 27) dX3_choose_27 (by decide) ?_
        refine w_imul h (pc := 29) dX3_choose_29 ?_
        refine w_aload_n h (pc := 30) dX3_choose_30 rfl ?_
        refine g3_ledger h (pc := 31) wm_74 dX3_choose_31 ?_
        refine g1_words h (pc := 34) eVw wm_414 dX3_choose_34 ?_
        refine w_iadd h (pc := 37) dX3_choose_37 ?_
        refine ld_costs h (pc := 38) (by omega) ((congrArg (w.2 11) hci).trans hld) dX3_choose_38 ?_
        refine st_lb h (pc := 39) (by omega) dX3_choose_39 ?_
        refine w_iinc h (pc := 40) dX3_choose_40 rfl (by decide) ?_
        refine w_goto h (pc := 43) (tgt := 8) dX3_choose_43 (by decide) ?_
        refine WW.sub (by rfl) (ih (s + 1) _ (by omega) (by omega) (hF.tr (Fr.A (by rcases hlb with e | e <;> rw [e] <;> simp))) hzw (fun s9 h9 x hx => ?_) (fun s9 h9 => ?_))
        · rw [uA_ne _ _ (by omega)]; exact ht s9 h9 x hx
        · rw [uA_1, uA_at]
          unfold upI
          rw [Int.toNat_natCast]
          by_cases e : s9 = s
          · rw [if_pos e, e]; rfl
          · rw [if_neg e]; exact hL s9 (by omega)
  exact WW.sub (by rfl) (lp8 (stN V N more + 1) 0 u1 (by omega) (by omega) (hF1.up (by simp) (by simp)) (by rw [hF1.1 10 (by simp), hF1.1 20 (by simp)]; exact hz) ht1 (fun s9 h9 => absurd h9 (Nat.not_lt_zero s9)))

set_option maxHeartbeats 4000000 in
set_option maxRecDepth 100000 in
theorem mX3_choiceAt (l : Launch) (D : va_G) (κ a : Nat → Nat) (ε : Nat) (u : US) (d s : Nat) (hd : d < 12) (hs : s < 1728) (r : Nat) (hr : u.2 (18 + d) s = (r : Int)) : Ct (W0 κ a) l D κ ε yX3_choiceAt cX3_choiceAt 3 (some .int) 0 0 0 0 u [.ref (a 3), .int (iI (d : Int)), .int (iI (s : Int))] (fun v u' => v = some (.int (iI (r : Int))) ∧ u' = u) := by
  refine Ct.of (own := RX3) rfl (by decide +kernel) (Nat.le_of_ble_eq_true rfl) rfl (fun Γ h => ?_)
  refine w_iload_n h (pc := 0) dX3_choiceAt_0 rfl ?_
  refine w_if_lt h (pc := 1) (tgt := 21) dX3_choiceAt_1 (by decide) (by omega) (fun c1 => by exfalso; omega) (fun c1 => ?_)
  refine w_iload_n h (pc := 4) dX3_choiceAt_4 rfl ?_
  refine w_bipush h (pc := 5) dX3_choiceAt_5 (by decide) ?_
  refine w_icmp_ge h (pc := 7) (tgt := 21) dX3_choiceAt_7 (by decide) (by omega) (by omega) (fun c7 => by exfalso; omega) (fun c7 => ?_)
  refine w_iload_n h (pc := 10) dX3_choiceAt_10 rfl ?_
  refine w_if_lt h (pc := 11) (tgt := 21) dX3_choiceAt_11 (by decide) (by omega) (fun c11 => by exfalso; omega) (fun c11 => ?_)
  refine w_iload_n h (pc := 14) dX3_choiceAt_14 rfl ?_
  refine w_sipush h (pc := 15) dX3_choiceAt_15 (by decide) ?_
  refine w_icmp_lt h (pc := 18) (tgt := 23) dX3_choiceAt_18 (by decide) (by omega) (by omega) (fun c18 => ?_) (fun c18 => by exfalso; omega)
  refine w_aload_n h (pc := 23) dX3_choiceAt_23 rfl ?_
  refine g3_choices h (pc := 24) wm_71 dX3_choiceAt_24 ?_
  refine w_iload_n h (pc := 27) dX3_choiceAt_27 rfl ?_
  refine ld_choices h (pc := 28) (by omega) (q := 18 + d) (by omega) dX3_choiceAt_28 ?_
  refine w_iload_n h (pc := 29) dX3_choiceAt_29 rfl ?_
  refine ld_ch h (pc := 30) (by omega) (by omega) hr dX3_choiceAt_30 ?_
  exact w_iret h (pc := 31) (ty := .int) rfl rfl dX3_choiceAt_31 (Nat.le_of_ble_eq_true rfl) (Nat.le_of_ble_eq_true rfl) ⟨rfl, rfl⟩

set_option maxHeartbeats 4000000 in
set_option maxRecDepth 100000 in
theorem mX3_stateBehind (l : Launch) (D : va_G) (κ a : Nat → Nat) (ε : Nat) (V N : Nat) (u : US) (hV : 1 ≤ V ∧ V ≤ 12) (hN : 1 ≤ N ∧ N ≤ 4) (eV : u.1 4 = (V : Int)) (eN : u.1 5 = (N : Int)) (d s w : Nat) (hd : d ≤ 1) (hs : s ≤ 144) (hw : w < V) : Ct (W0 κ a) l D κ ε yX3_stateBehind cX3_stateBehind 4 (some .int) 3 65 0 0 u [.ref (a 3), .int (iI (d : Int)), .int (iI (s : Int)), .int (iI (w : Int))] (fun v u' => v = some (.int (iI (nx V N d s w : Int))) ∧ u' = u) := by
  have hl2 := pow_lim (V := V) (ch := min (d + 1) (N - 1)) hV (by omega)
  have hst2 : 1 ≤ stN V N (d + 1) ∧ stN V N (d + 1) ≤ 144 := hl2
  obtain ⟨q, hq⟩ : ∃ q, q = s * V := ⟨_, rfl⟩
  have hql : q ≤ 144 * 12 := by rw [hq]; exact Nat.mul_le_mul hs hV.2
  refine Ct.of (own := RX3) rfl (by decide +kernel) (Nat.le_of_ble_eq_true rfl) rfl (fun Γ h => ?_)
  refine w_iload_n h (pc := 0) dX3_stateBehind_0 rfl ?_
  refine w_aload_n h (pc := 1) dX3_stateBehind_1 rfl ?_
  refine g3_ledger h (pc := 2) wm_74 dX3_stateBehind_2 ?_
  refine g1_words h (pc := 5) eV wm_414 dX3_stateBehind_5 ?_
  refine w_imul h (pc := 8) dX3_stateBehind_8 ?_
  rw [show ((s : Int) * (V : Int)) = (q : Int) by rw [hq]; rfl]
  refine w_iload_n h (pc := 9) dX3_stateBehind_9 rfl ?_
  refine w_iadd h (pc := 10) dX3_stateBehind_10 ?_
  refine w_aload_n h (pc := 11) dX3_stateBehind_11 rfl ?_
  refine w_iload_n h (pc := 12) dX3_stateBehind_12 rfl ?_
  refine w_iconst h (pc := 13) dX3_stateBehind_13 ?_
  refine w_iadd h (pc := 14) dX3_stateBehind_14 ?_
  refine w_callV1 h (pc := 15) (mX3_statesAt l D κ a ε V N u hV hN eV eN (d + 1) (by omega)) 3 rfl rfl (gdV wm_426 wm_427 wm_428 wm_23 wm_429) (by decide +kernel) ⟨(Nat.le_of_ble_eq_true rfl), (Nat.le_of_ble_eq_true rfl)⟩ ⟨(Nat.le_of_ble_eq_true rfl), (Nat.le_of_ble_eq_true rfl)⟩ (fun _ _ _ => ⟨rfl, rfl⟩) (Nat.le_of_ble_eq_true rfl) dX3_stateBehind_15 (fun v1 u1 hp1 => ?_)
  obtain ⟨rfl, e1⟩ := hp1
  obtain rfl := e1.symm
  simp only [Option.toList_some, List.cons_append, List.nil_append]
  refine w_irem h (pc := 18) dX3_stateBehind_18 (by omega) (by omega) ?_
  exact w_iret h (pc := 19) (ty := .int) rfl rfl dX3_stateBehind_19 (Nat.le_of_ble_eq_true rfl) (Nat.le_of_ble_eq_true rfl) ⟨by unfold nx; rw [← hq]; rfl, rfl⟩

set_option maxHeartbeats 4000000 in
set_option maxRecDepth 100000 in
theorem mX5_complete (l : Launch) (D : va_G) (κ a : Nat → Nat) (ε : Nat) (V N way num m : Nat) (S : List Nat) (T : Nat → List (Nat × Nat)) (u : US) (hA : AB V N way num m S T u) (hV1 : 1 ≤ V) (more : Nat) (hmr : more ≤ 2) (hL12 : S.length + more ≤ 12) (hz : ((u.1 10 = 0 ∧ u.1 20 = 1) ∨ (u.1 10 = 1 ∧ u.1 20 = 0))) : Ct (W0 κ a) l D κ ε yX5_complete cX5_complete 6 (some .int) 6 147 0 0 u [.ref (a 0), .int (iI ((S.length + more : Nat) : Int))] (fun v u' => ∃ ws : List Nat, ws.length = more ∧ (∀ w ∈ ws, w < V) ∧ v = some (.int (iI (scr V N way num (S ++ ws) T : Int))) ∧ AB V N way num m (S ++ ws) T u' ∧ (∀ wt : List Nat, wt.length = more → (∀ w ∈ wt, w < V) → scr V N way num (S ++ ws) T ≤ scr V N way num (S ++ wt) T) ∧ ∀ k, k = 1 ∨ k = 2 ∨ k = 3 ∨ k = 11 → u'.1 k = u.1 k) := by
  obtain ⟨⟨hV, hN, hway, hnum, hm, hSl, hSV⟩, eV, eN, ew, en, ⟨eS, hS⟩, hT⟩ := id hA
  have hbest := cw_best V N (CcF V N way num T (c0 V N S)) more
  have hwl := cw_len V N (CcF V N way num T (c0 V N S)) more more 0 0
  have hwV := cw_lt V N (CcF V N way num T (c0 V N S)) more (by omega) more 0 0
  refine Ct.of (own := RX5) rfl (by decide +kernel) (Nat.le_of_ble_eq_true rfl) rfl (fun Γ h => ?_)
  refine w_iload_n h (pc := 0) dX5_complete_0 rfl ?_
  refine w_aload_n h (pc := 1) dX5_complete_1 rfl ?_
  refine g0_length h (pc := 2) eS wm_33 dX5_complete_2 ?_
  refine w_icmp_lt h (pc := 5) (tgt := 14) dX5_complete_5 (by decide) (by omega) (by omega) (fun c5 => by exfalso; omega) (fun c5 => ?_)
  refine w_iload_n h (pc := 8) dX5_complete_8 rfl ?_
  refine w_bipush h (pc := 9) dX5_complete_9 (by decide) ?_
  refine w_icmp_le h (pc := 11) (tgt := 24) dX5_complete_11 (by decide) (by omega) (by omega) (fun c11 => ?_) (fun c11 => by exfalso; omega)
  refine w_aload_n h (pc := 24) dX5_complete_24 rfl ?_
  refine g0_ledger h (pc := 25) wm_16 dX5_complete_25 ?_
  refine g1_words h (pc := 28) eV wm_113 dX5_complete_28 ?_
  refine w_if_ne h (pc := 31) (tgt := 44) dX5_complete_31 (by decide) (by omega) (fun c31 => ?_) (fun c31 => by exfalso; omega)
  refine w_iload_n h (pc := 44) dX5_complete_44 rfl ?_
  refine w_aload_n h (pc := 45) dX5_complete_45 rfl ?_
  refine g0_length h (pc := 46) eS wm_33 dX5_complete_46 ?_
  refine w_isub h (pc := 49) dX5_complete_49 ?_
  refine w_istore_n h (pc := 50) dX5_complete_50 (by decide) ?_
  refine w_aload_n h (pc := 51) dX5_complete_51 rfl ?_
  refine g0_search h (pc := 52) wm_24 dX5_complete_52 ?_
  refine w_aload_n h (pc := 55) dX5_complete_55 rfl ?_
  refine w_aload_n h (pc := 56) dX5_complete_56 rfl ?_
  refine g0_length h (pc := 57) eS wm_33 dX5_complete_57 ?_
  refine w_iconst h (pc := 60) dX5_complete_60 ?_
  refine w_isub h (pc := 61) dX5_complete_61 ?_
  refine w_aload_n h (pc := 62) dX5_complete_62 rfl ?_
  refine g0_ledger h (pc := 63) wm_16 dX5_complete_63 ?_
  refine g1_order h (pc := 66) eN wm_140 dX5_complete_66 ?_
  refine w_iconst h (pc := 69) dX5_complete_69 ?_
  refine w_isub h (pc := 70) dX5_complete_70 ?_
  rw [show ((N : Int) - 1) = ((N - 1 : Nat) : Int) by omega]
  refine w_callV2 h (pc := 71) (mX5_keyUpTo l D κ a ε V N way num m S T u hA ((S.length : Int) - 1) (by omega) (N - 1) (by omega)) 0 rfl rfl (gdV wm_170 wm_171 wm_172 wm_2 wm_173) (by decide +kernel) ⟨(Nat.le_of_ble_eq_true rfl), (Nat.le_of_ble_eq_true rfl)⟩ ⟨(Nat.le_of_ble_eq_true rfl), (Nat.le_of_ble_eq_true rfl)⟩ (fun _ _ _ => ⟨rfl, rfl⟩) (Nat.le_of_ble_eq_true rfl) dX5_complete_71 (fun v1 u1 hp1 => ?_)
  obtain ⟨rfl, e1⟩ := hp1
  obtain rfl := e1.symm
  simp only [Option.toList_some, List.cons_append, List.nil_append]
  refine w_iload_n h (pc := 74) dX5_complete_74 rfl ?_
  rw [show ((S.length + more : Nat) : Int) - (S.length : Int) = (more : Int) by omega]
  refine w_callV2 h (pc := 75) (mX3_choose l D κ a ε V N way num m S T u hA hV1 (c0 V N S) more (ky_3 hV hSV (by omega) _) hmr hz) 3 rfl rfl (gdV wm_410 wm_411 wm_412 wm_23 wm_413) (by decide +kernel) ⟨(Nat.le_of_ble_eq_true rfl), (Nat.le_of_ble_eq_true rfl)⟩ ⟨(Nat.le_of_ble_eq_true rfl), (Nat.le_of_ble_eq_true rfl)⟩ (fun _ _ _ => ⟨rfl, rfl⟩) (Nat.le_of_ble_eq_true rfl) dX5_complete_75 (fun v2 u2 hp2 => ?_)
  obtain ⟨rfl, hF2, hch⟩ := hp2
  have hA2 := hA.of hF2 (by simp [tS]) (by simp [tG]) (by simp) (by simp)
  simp only [Option.toList_none, List.nil_append]
  refine w_iconst h (pc := 78) dX5_complete_78 ?_
  refine w_istore_n h (pc := 79) dX5_complete_79 (by decide) ?_
  refine w_iconst h (pc := 80) dX5_complete_80 ?_
  refine w_istore h (pc := 81) dX5_complete_81 (by decide) ?_
  have lp83 : ∀ (n9 j s : Nat) (pre : List Nat) (w : US), more < j + n9 → j ≤ more → s < stN V N j → pre.length = j → pre ++ cw V N (CcF V N way num T (c0 V N S)) more (more - j) j s = cw V N (CcF V N way num T (c0 V N S)) more more 0 0 → AB V N way num m (S ++ pre) T w → Fr [0] [6] u2 w → WW Γ 6 w 83 [(0, .ref (a 0)), (2, .int (iI (more : Int))), (3, .int (iI (s : Int))), (4, .int (iI (j : Int)))] [] := by
    intro n9
    induction n9 with
    | zero => intro j s pre w hn9 hj hs hpl hpre hAw hFw; exfalso; omega
    | succ n9 ih =>
      intro j s pre w hn9 hj hs hpl hpre hAw hFw
      refine w_iload h (pc := 83) dX5_complete_83 rfl ?_
      refine w_iload_n h (pc := 85) dX5_complete_85 rfl ?_
      refine w_icmp_ge h (pc := 86) (tgt := 126) dX5_complete_86 (by decide) (by omega) (by omega) (fun c86 => ?_) (fun c86 => ?_)
      · have ej : j = more := by omega
        rw [ej, Nat.sub_self] at hpre
        have epre : pre = cw V N (CcF V N way num T (c0 V N S)) more more 0 0 := by rw [← hpre]; exact (List.append_nil _).symm
        refine w_aload_n h (pc := 126) dX5_complete_126 rfl ?_
        refine w_callV0 h (pc := 127) (mX5_sumOfCosts l D κ a ε V N way num m (S ++ pre) T w hAw) 0 rfl rfl (gdV wm_337 wm_338 wm_339 wm_2 wm_340) (by decide +kernel) ⟨(Nat.le_of_ble_eq_true rfl), (Nat.le_of_ble_eq_true rfl)⟩ ⟨(Nat.le_of_ble_eq_true rfl), (Nat.le_of_ble_eq_true rfl)⟩ (fun _ _ _ => ⟨rfl, rfl⟩) (Nat.le_of_ble_eq_true rfl) dX5_complete_127 (fun v6 u6 hp6 => ?_)
        obtain ⟨rfl, hF6⟩ := hp6
        simp only [Option.toList_some, List.cons_append, List.nil_append]
        have hA6 := hAw.of hF6 (by simp [tS]) (by simp [tG]) (by simp) (by simp)
        rw [epre] at hA6 ⊢
        exact w_iret h (pc := 130) (ty := .int) rfl rfl dX5_complete_130 (Nat.le_of_ble_eq_true rfl) (Nat.le_of_ble_eq_true rfl) ⟨_, hwl, hwV, rfl, hA6, fun wt h1 h2 => by rw [scr_tc ⟨hV1, hV⟩ hN hSV _ (by omega) hwV, scr_tc ⟨hV1, hV⟩ hN hSV _ (by omega) h2]; exact Nat.add_le_add_left (hbest wt h1 h2) _, fun k hk => by rw [hF6.1 k (by simp; omega), hFw.1 k (by simp; omega), hF2.1 k (by simp; omega)]⟩
      · refine w_aload_n h (pc := 89) dX5_complete_89 rfl ?_
        refine g0_search h (pc := 90) wm_24 dX5_complete_90 ?_
        refine w_iload h (pc := 93) dX5_complete_93 rfl ?_
        refine w_iload_n h (pc := 95) dX5_complete_95 rfl ?_
        have hst : stN V N j ≤ 144 := (pow_lim (V := V) (ch := min j (N - 1)) ⟨hV1, hV⟩ (by omega)).2
        obtain ⟨k, hk⟩ : ∃ k, more - j = k + 1 := ⟨more - j - 1, by omega⟩
        rw [hk] at hpre
        have hchv : w.2 (18 + j) s = (chD V N (CcF V N way num T (c0 V N S)) more j s : Int) := by rw [hFw.2 (18 + j) (by simp; omega)]; exact hch j (by omega) s hs
        have hchl : chD V N (CcF V N way num T (c0 V N S)) more j s < V := am_lt (by omega)
        refine w_callV2 h (pc := 96) (mX3_choiceAt l D κ a ε w j s (by omega) (by omega) _ hchv) 3 rfl rfl (gdV wm_440 wm_441 wm_442 wm_23 wm_443) (by decide +kernel) ⟨(Nat.le_of_ble_eq_true rfl), (Nat.le_of_ble_eq_true rfl)⟩ ⟨(Nat.le_of_ble_eq_true rfl), (Nat.le_of_ble_eq_true rfl)⟩ (fun _ _ _ => ⟨rfl, rfl⟩) (Nat.le_of_ble_eq_true rfl) dX5_complete_96 (fun v3 u3 hp3 => ?_)
        obtain ⟨rfl, e3⟩ := hp3
        obtain rfl := e3.symm
        simp only [Option.toList_some, List.cons_append, List.nil_append]
        refine w_istore h (pc := 99) dX5_complete_99 (by decide) ?_
        refine w_aload_n h (pc := 101) dX5_complete_101 rfl ?_
        refine w_iload h (pc := 102) dX5_complete_102 rfl ?_
        refine w_callV1 h (pc := 104) (mX5_append l D κ a ε V N way num m (S ++ pre) T w hAw _ hchl (by rw [List.length_append]; omega)) 0 rfl rfl (gdV wm_158 wm_159 wm_160 wm_2 wm_161) (by decide +kernel) ⟨(Nat.le_of_ble_eq_true rfl), (Nat.le_of_ble_eq_true rfl)⟩ ⟨(Nat.le_of_ble_eq_true rfl), (Nat.le_of_ble_eq_true rfl)⟩ (fun _ _ _ => ⟨rfl, rfl⟩) (Nat.le_of_ble_eq_true rfl) dX5_complete_104 (fun v4 u4 hp4 => ?_)
        obtain ⟨rfl, hF4, hA4⟩ := hp4
        simp only [Option.toList_none, List.nil_append]
        refine w_aload_n h (pc := 107) dX5_complete_107 rfl ?_
        refine g0_search h (pc := 108) wm_24 dX5_complete_108 ?_
        refine w_iload h (pc := 111) dX5_complete_111 rfl ?_
        refine w_iload_n h (pc := 113) dX5_complete_113 rfl ?_
        refine w_iload h (pc := 114) dX5_complete_114 rfl ?_
        refine w_callV3 h (pc := 116) (mX3_stateBehind l D κ a ε V N u4 ⟨hV1, hV⟩ hN hA4.2.1 hA4.2.2.1 j s _ (by omega) (by omega) hchl) 3 rfl rfl (gdV wm_444 wm_445 wm_446 wm_23 wm_447) (by decide +kernel) ⟨(Nat.le_of_ble_eq_true rfl), (Nat.le_of_ble_eq_true rfl)⟩ ⟨(Nat.le_of_ble_eq_true rfl), (Nat.le_of_ble_eq_true rfl)⟩ (fun _ _ _ => ⟨rfl, rfl⟩) (Nat.le_of_ble_eq_true rfl) dX5_complete_116 (fun v5 u5 hp5 => ?_)
        obtain ⟨rfl, e5⟩ := hp5
        obtain rfl := e5.symm
        simp only [Option.toList_some, List.cons_append, List.nil_append]
        refine w_istore_n h (pc := 119) dX5_complete_119 (by decide) ?_
        refine w_iinc h (pc := 120) dX5_complete_120 rfl (by decide) ?_
        refine w_goto h (pc := 123) (tgt := 83) dX5_complete_123 (by decide) ?_
        refine WW.sub (by rfl) (ih (j + 1) (nx V N j s (chD V N (CcF V N way num T (c0 V N S)) more j s)) (pre ++ [chD V N (CcF V N way num T (c0 V N S)) more j s]) u4 (by omega) (by omega) (Nat.mod_lt _ (pow_lim (V := V) (ch := min (j + 1) (N - 1)) ⟨hV1, hV⟩ (by omega)).1) (by rw [List.length_append, hpl]; rfl) ?_ (by rw [← List.append_assoc]; exact hA4) (hFw.tr hF4))
        rw [List.append_assoc, show more - (j + 1) = k by omega]
        exact hpre
  exact WW.sub (by rfl) (lp83 (more + 1) 0 0 [] u2 (by omega) (by omega) (by show 0 < V ^ min 0 (N - 1); rw [Nat.zero_min]; exact Nat.one_pos) rfl rfl (by rw [List.append_nil]; exact hA2) Fr.rfl)
end
section
/-! meanCost's quotient: no NaN, and times the length it isn't more than a score more by one -/
theorem md_fin {x : UInt64} {n : Nat} (h : FP.Core.DInt (n : Int) x) : ∃ s c q, FP.Core.val64 x = .fin s c q ∧ FP.Core.fits FP.Core.b64 (.fin s c q) ∧ c * 2 ^ (q - FP.Core.b64.qmin).toNat = n * FP.Core.one64 := by
  have h1 := FP.Core.DInt_zval h
  have h2 := FP.Core.DInt_ne_nan h
  have h3 := FP.Core.val64_fits x
  have h4 : FP.Core.Whole (n : Int) (FP.Core.val64 x) := h
  cases hv : FP.Core.val64 x with
  | nan => exact absurd hv h2
  | inf s => rw [hv] at h4; exact h4.elim
  | fin s c q =>
    refine ⟨s, c, q, rfl, by rw [← hv]; exact h3, ?_⟩
    rw [hv] at h1
    have h5 := congrArg Int.natAbs h1
    unfold FP.Core.zval at h5
    rw [FP.Core.natAbs_signed, Int.natAbs_mul] at h5
    exact h5
theorem md_V (M : Nat) (hM : M < 2 ^ 53) : ∃ V : FP.Core.Datum, FP.Core.fits FP.Core.b64 V ∧ V ≠ .nan ∧ FP.Core.zmag FP.Core.b64 V = M * 2 ^ 1069 := by
  obtain ⟨c, q, h1, h2⟩ := FP.Core.round_exact FP.Core.good_b64 false (c := M) (q := -5) hM (by decide) (by decide)
  refine ⟨FP.Core.round FP.Core.b64 (.fin false M (-5)), FP.Core.round_fits FP.Core.good_b64 _, ?_, ?_⟩
  · rw [h1]; exact FP.Core.Datum.noConfusion
  · rw [h1]; exact h2
theorem md_div {a b : UInt64} {S k M : Nat} (ha : FP.Core.DInt (S : Int) a) (hb : FP.Core.DInt (k : Int) b) (hk : 1 ≤ k) (hM : M < 2 ^ 53) (h : 32 * S ≤ M * k) : FP.Core.val64 (FP.Core.ddiv a b) ≠ .nan ∧ FP.Core.zmag FP.Core.b64 (FP.Core.val64 (FP.Core.ddiv a b)) ≤ M * 2 ^ 1069 := by
  obtain ⟨s, c, q, e1, f1, g1⟩ := md_fin ha
  obtain ⟨t, d, r, e2, f2, g2⟩ := md_fin hb
  have hU := FP.Core.one64_pos
  have hd : 0 < d := by
    rcases Nat.eq_zero_or_pos d with e | e
    · rw [e, Nat.zero_mul] at g2
      have := Nat.mul_pos (show 0 < k from hk) hU
      omega
    · exact e
  have ev : FP.Core.val64 (FP.Core.ddiv a b) = FP.Core.roundRatio FP.Core.b64 (s != t) c d (q - r) := by
    rw [FP.Core.val64_ddiv, e1, e2]
    show (if d = 0 then _ else _) = _
    rw [if_neg (by omega)]
  rw [ev]
  refine ⟨FP.Core.roundRatio_ne_nan _ _ _ _ _, ?_⟩
  obtain ⟨V, v1, v2, v3⟩ := md_V M hM
  rw [← v3]
  have q1 : FP.Core.b64.qmin ≤ q := f1.2.1
  have r1 : FP.Core.b64.qmin ≤ r := f2.2.1
  obtain ⟨j, hj⟩ : ∃ j : Nat, r = FP.Core.b64.qmin + j := ⟨(r - FP.Core.b64.qmin).toNat, by omega⟩
  obtain ⟨i, hi⟩ : ∃ i : Nat, q = FP.Core.b64.qmin + i := ⟨(q - FP.Core.b64.qmin).toNat, by omega⟩
  have hq : FP.Core.b64.qmin = -1074 := by decide
  refine FP.Core.zmag_roundRatio_le FP.Core.good_b64 hd v1 v2 (e0 := FP.Core.b64.qmin - j) (by omega) (by omega) ?_
  rw [v3]
  unfold FP.Core.inUnits
  rw [show (q - r - (FP.Core.b64.qmin - j)).toNat = i + 1074 by omega, show (FP.Core.b64.qmin - (FP.Core.b64.qmin - (j : Int))).toNat = j by omega]
  rw [show (q - FP.Core.b64.qmin).toNat = i by omega] at g1
  rw [show (r - FP.Core.b64.qmin).toNat = j by omega] at g2
  rw [Nat.pow_add, ← Nat.mul_assoc, g1]
  rw [Nat.mul_assoc (M * 2 ^ 1069), Nat.mul_comm (2 ^ j) d, g2]
  unfold FP.Core.one64
  have e : (2 : Nat) ^ 1074 = 32 * 2 ^ 1069 := by rw [show 1074 = 5 + 1069 from rfl, Nat.pow_add]
  generalize (2 : Nat) ^ 1069 = W at e ⊢
  generalize (2 : Nat) ^ 1074 = Z at e ⊢
  calc S * Z * Z = (32 * S) * (W * Z) := by rw [e]; ac_rfl
    _ ≤ (M * k) * (W * Z) := Nat.mul_le_mul_right _ h
    _ = M * W * (k * Z) := by ac_rfl
theorem md_mul {x b y : UInt64} {k N : Nat} (hx : FP.Core.val64 x ≠ .nan) (hb : FP.Core.DInt (k : Int) b) (hy : FP.Core.DInt (N : Int) y) (hf : FP.Core.zmag FP.Core.b64 (FP.Core.val64 x) < FP.Core.b64.tails * 2 ^ (FP.Core.b64.exps - 2)) (h : FP.Core.zmag FP.Core.b64 (FP.Core.val64 x) * k ≤ N * FP.Core.one64) : FP.Core.val64 (FP.Core.dmul x b) ≠ .nan ∧ FP.Core.zval FP.Core.b64 (FP.Core.val64 (FP.Core.dmul x b)) ≤ FP.Core.zval FP.Core.b64 (FP.Core.val64 y) := by
  obtain ⟨t, d, r, e2, f2, g2⟩ := md_fin hb
  have h3 := FP.Core.val64_fits x
  have y1 := FP.Core.DInt_zval hy
  have y2 := FP.Core.val64_fits y
  have y3 := FP.Core.DInt_ne_nan hy
  rw [FP.Core.val64_dmul]
  cases hv : FP.Core.val64 x with
  | nan => exact absurd hv hx
  | inf s => rw [hv] at hf; exact absurd hf (Nat.lt_irrefl _)
  | fin s c q =>
    rw [hv] at h3 h hf
    rw [e2]
    have ev : FP.Core.round FP.Core.b64 (FP.Core.exactProduct (.fin s c q) (.fin t d r)) = FP.Core.roundRatio FP.Core.b64 (s != t) (c * d) 1 (q + r) := rfl
    rw [ev]
    refine ⟨FP.Core.roundRatio_ne_nan _ _ _ _ _, ?_⟩
    have q1 : FP.Core.b64.qmin ≤ q := h3.2.1
    have r1 : FP.Core.b64.qmin ≤ r := f2.2.1
    have hle : FP.Core.zmag FP.Core.b64 (FP.Core.roundRatio FP.Core.b64 (s != t) (c * d) 1 (q + r)) ≤ FP.Core.zmag FP.Core.b64 (FP.Core.val64 y) := by
      have hq : FP.Core.b64.qmin = -1074 := by decide
      have yz : FP.Core.zmag FP.Core.b64 (FP.Core.val64 y) = N * FP.Core.one64 := by
        have := congrArg Int.natAbs y1
        unfold FP.Core.zval at this
        rw [FP.Core.natAbs_signed, Int.natAbs_mul] at this
        exact this
      refine FP.Core.zmag_roundRatio_le FP.Core.good_b64 (by decide) y2 y3 (e0 := FP.Core.b64.qmin + FP.Core.b64.qmin) (by omega) (by omega) ?_
      rw [yz]
      have h5 : FP.Core.zmag FP.Core.b64 (.fin s c q) = c * 2 ^ (q - FP.Core.b64.qmin).toNat := rfl
      rw [h5] at h
      unfold FP.Core.inUnits
      rw [show (q + r - (FP.Core.b64.qmin + FP.Core.b64.qmin)).toNat = (q - FP.Core.b64.qmin).toNat + (r - FP.Core.b64.qmin).toNat by omega, show (FP.Core.b64.qmin - (FP.Core.b64.qmin + FP.Core.b64.qmin)).toNat = 1074 by omega, Nat.pow_add, Nat.mul_one]
      calc c * d * (2 ^ (q - FP.Core.b64.qmin).toNat * 2 ^ (r - FP.Core.b64.qmin).toNat) = c * 2 ^ (q - FP.Core.b64.qmin).toNat * (d * 2 ^ (r - FP.Core.b64.qmin).toNat) := by ac_rfl
        _ = c * 2 ^ (q - FP.Core.b64.qmin).toNat * k * FP.Core.one64 := by rw [g2]; exact (Nat.mul_assoc _ _ _).symm
        _ ≤ N * FP.Core.one64 * FP.Core.one64 := Nat.mul_le_mul_right _ h
    rw [y1]
    have yz : FP.Core.zmag FP.Core.b64 (FP.Core.val64 y) = N * FP.Core.one64 := by
      have := congrArg Int.natAbs y1
      unfold FP.Core.zval at this
      rw [FP.Core.natAbs_signed, Int.natAbs_mul] at this
      exact this
    rw [yz] at hle
    unfold FP.Core.zval
    have : ∀ (b : Bool) (n : Nat), FP.Core.signed b n ≤ (n : Int) := by intro b n; unfold FP.Core.signed; cases b <;> simp <;> omega
    refine Int.le_trans (this _ _) ?_
    rw [← Int.natCast_mul]
    exact Int.ofNat_le.mpr hle
theorem md_all {a b y : UInt64} {S k : Nat} (ha : FP.Core.DInt (S : Int) a) (hb : FP.Core.DInt (k : Int) b) (hy : FP.Core.DInt ((S + 1 : Nat) : Int) y) (hk : 1 ≤ k) (hk2 : k ≤ 13) (hS : S ≤ 1000000) : FP.Core.val64 (FP.Core.ddiv a b) ≠ .nan ∧ FP.Core.val64 (FP.Core.dmul (FP.Core.ddiv a b) b) ≠ .nan ∧ (FP.Core.dcmp (FP.Core.dmul (FP.Core.ddiv a b) b) y = some .lt ∨ FP.Core.dcmp (FP.Core.dmul (FP.Core.ddiv a b) b) y = some .eq) := by
  obtain ⟨M, hM⟩ : ∃ M, M = (32 * S + 12) / k := ⟨_, rfl⟩
  have hM1 : M * k ≤ 32 * S + 12 := by rw [hM]; exact Nat.div_mul_le_self _ _
  have hM2 : 32 * S ≤ M * k := by
    have := Nat.lt_div_mul_add (a := 32 * S + 12) (b := k) hk
    rw [← hM] at this
    omega
  have hM3 : M ≤ 32000012 := by
    have : M * 1 ≤ M * k := Nat.mul_le_mul_left _ hk
    omega
  obtain ⟨h1, h2⟩ := md_div ha hb hk (M := M) (Nat.lt_of_le_of_lt hM3 (by decide)) hM2
  have e : FP.Core.one64 = 32 * 2 ^ 1069 := by unfold FP.Core.one64; rw [show 1074 = 5 + 1069 from rfl, Nat.pow_add]
  have h3 : FP.Core.zmag FP.Core.b64 (FP.Core.val64 (FP.Core.ddiv a b)) < FP.Core.b64.tails * 2 ^ (FP.Core.b64.exps - 2) := by
    refine Nat.lt_of_le_of_lt h2 ?_
    have e1 : FP.Core.b64.tails = 2 ^ 52 := by decide
    have e2 : FP.Core.b64.exps - 2 = 977 + 1069 := by decide
    rw [e1, e2, Nat.pow_add, ← Nat.mul_assoc]
    refine Nat.mul_lt_mul_of_pos_right ?_ (Nat.two_pow_pos _)
    exact Nat.lt_of_lt_of_le (Nat.lt_of_le_of_lt hM3 (by decide : 32000012 < 2 ^ 52)) (Nat.le_mul_of_pos_right _ (Nat.two_pow_pos _))
  obtain ⟨h4, h5⟩ := md_mul (x := FP.Core.ddiv a b) h1 hb hy h3 (by
    refine Nat.le_trans (Nat.mul_le_mul_right k h2) ?_
    rw [e]
    generalize (2 : Nat) ^ 1069 = W
    calc M * W * k = M * k * W := by ac_rfl
      _ ≤ ((S + 1) * 32) * W := Nat.mul_le_mul_right _ (by omega)
      _ = (S + 1) * (32 * W) := by ac_rfl)
  exact ⟨h1, h4, FP.Core.dcmp_le.mpr ⟨h4, FP.Core.DInt_ne_nan hy, h5⟩⟩
theorem md_n64 {x : UInt64} (h : FP.Core.val64 x ≠ .nan) : x &&& 0x7fffffffffffffff ≤ 0x7ff0000000000000 := by
  rw [FP.Core.ne_nan] at h
  rw [UInt64.le_iff_toNat_le, UInt64.toNat_and]
  show x.toNat &&& (2 ^ 63 - 1) ≤ 9218868437227405312
  rw [Nat.and_two_pow_sub_one_eq_mod]
  exact h
theorem md_i {n : Nat} (h : n < 2147483648) : FP.Core.DInt (n : Int) (FP.i2d (iI (n : Int))) := by
  have := FP.Core.i2d_int (iI (n : Int))
  rwa [iI_toInt (by omega)] at this
theorem md_1 {S k : Nat} (hk : 1 ≤ k) (hk2 : k ≤ 13) (hS : S ≤ 1000000) : vf_n64 (FP.ddiv (FP.i2d (iI (S : Int))) (FP.i2d (iI (k : Int)))) := md_n64 (md_all (md_i (by omega)) (md_i (by omega)) (md_i (by omega)) hk hk2 hS).1
theorem md_2 {S k : Nat} (hk : 1 ≤ k) (hk2 : k ≤ 13) (hS : S ≤ 1000000) : vf_n64 (FP.dmul (FP.ddiv (FP.i2d (iI (S : Int))) (FP.i2d (iI (k : Int)))) (FP.i2d (iI (k : Int)))) := md_n64 (md_all (md_i (by omega)) (md_i (by omega)) (md_i (by omega)) hk hk2 hS).2.1
theorem md_3 {S k : Nat} (hk : 1 ≤ k) (hk2 : k ≤ 13) (hS : S ≤ 1000000) : FP.dcmp (FP.dmul (FP.ddiv (FP.i2d (iI (S : Int))) (FP.i2d (iI (k : Int)))) (FP.i2d (iI (k : Int)))) (FP.i2d (iI ((S + 1 : Nat) : Int))) = some .lt ∨ FP.dcmp (FP.dmul (FP.ddiv (FP.i2d (iI (S : Int))) (FP.i2d (iI (k : Int)))) (FP.i2d (iI (k : Int)))) (FP.i2d (iI ((S + 1 : Nat) : Int))) = some .eq := (md_all (md_i (by omega)) (md_i (by omega)) (md_i (by omega)) hk hk2 hS).2.2
end
section
theorem dX5_meanCost_0 : decode cX5_meanCost 0 = .ok (.aload_n 0, 1) := by decide +kernel
theorem dX5_meanCost_1 : decode cX5_meanCost 1 = .ok (.invokevirtual 197, 3) := by decide +kernel
theorem dX5_meanCost_4 : decode cX5_meanCost 4 = .ok (.i2d, 1) := by decide +kernel
theorem dX5_meanCost_5 : decode cX5_meanCost 5 = .ok (.aload_n 0, 1) := by decide +kernel
theorem dX5_meanCost_6 : decode cX5_meanCost 6 = .ok (.getfield 51, 3) := by decide +kernel
theorem dX5_meanCost_9 : decode cX5_meanCost 9 = .ok (.iconst 1, 1) := by decide +kernel
theorem dX5_meanCost_10 : decode cX5_meanCost 10 = .ok (.iadd, 1) := by decide +kernel
theorem dX5_meanCost_11 : decode cX5_meanCost 11 = .ok (.i2d, 1) := by decide +kernel
theorem dX5_meanCost_12 : decode cX5_meanCost 12 = .ok (.ddiv, 1) := by decide +kernel
theorem dX5_meanCost_13 : decode cX5_meanCost 13 = .ok (.dreturn, 1) := by decide +kernel
set_option maxHeartbeats 4000000 in
set_option maxRecDepth 100000 in
theorem mX5_meanCost (l : Launch) (D : va_G) (κ a : Nat → Nat) (ε : Nat) (V N way num m : Nat) (S : List Nat) (T : Nat → List (Nat × Nat)) (u : US) (hA : AB V N way num m S T u) : Ct (W0 κ a) l D κ ε yX5_meanCost cX5_meanCost 1 (some .double) 5 119 0 0 u [.ref (a 0)] (fun v u' => v = some (.double (FP.ddiv (FP.i2d (iI (scr V N way num S T : Int))) (FP.i2d (iI ((S.length + 1 : Nat) : Int))))) ∧ Fr [8, 9] [9, 10] u u') := by
  obtain ⟨⟨hV, hN, hway, hnum, hm, hSl, hSV⟩, eV, eN, ew, en, ⟨eS, hS⟩, hT⟩ := id hA
  have hsl := scr_le (V := V) (N := N) (way := way) (num := num) (S := S) (T := T) (S.length + 1)
  have hsc : scr V N way num S T ≤ 1000000 := by unfold scr; omega
  refine Ct.of (own := RX5) rfl (by decide +kernel) (Nat.le_of_ble_eq_true rfl) rfl (fun Γ h => ?_)
  refine w_aload_n h (pc := 0) dX5_meanCost_0 rfl ?_
  refine w_callV0 h (pc := 1) (mX5_sumOfCosts l D κ a ε V N way num m S T u hA) 0 rfl rfl (gdV wm_337 wm_338 wm_339 wm_2 wm_340) (by decide +kernel) ⟨(Nat.le_of_ble_eq_true rfl), (Nat.le_of_ble_eq_true rfl)⟩ ⟨(Nat.le_of_ble_eq_true rfl), (Nat.le_of_ble_eq_true rfl)⟩ (fun _ _ _ => ⟨rfl, rfl⟩) (Nat.le_of_ble_eq_true rfl) dX5_meanCost_1 (fun v1 u1 hp1 => ?_)
  obtain ⟨rfl, hF1⟩ := hp1
  simp only [Option.toList_some, List.cons_append, List.nil_append]
  refine w_i2d h (pc := 4) dX5_meanCost_4 ?_
  refine w_aload_n h (pc := 5) dX5_meanCost_5 rfl ?_
  refine g0_length h (pc := 6) ((hF1.1 0 (by simp)).trans eS) wm_33 dX5_meanCost_6 ?_
  refine w_iconst h (pc := 9) dX5_meanCost_9 ?_
  refine w_iadd h (pc := 10) dX5_meanCost_10 ?_
  refine w_i2d h (pc := 11) dX5_meanCost_11 ?_
  rw [show ((S.length : Int) + 1) = ((S.length + 1 : Nat) : Int) from rfl]
  refine w_ddiv h (pc := 12) dX5_meanCost_12 (md_1 (Nat.le_add_left 1 _) (by omega) hsc) ?_
  exact w_dret h (pc := 13) rfl dX5_meanCost_13 (Nat.le_of_ble_eq_true rfl) (Nat.le_of_ble_eq_true rfl) ⟨rfl, hF1⟩
end
