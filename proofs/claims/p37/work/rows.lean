section
/-! pure layer 1 (DRAFT, never compiled yet): sums, floors, ranks, picks; all in Nat -/
def sm (f : Nat → Nat) : Nat → Nat
  | 0 => 0
  | n + 1 => sm f n + f n
theorem sm_s (f : Nat → Nat) (n : Nat) : sm f (n + 1) = sm f n + f n := rfl
theorem sm_cg {f g : Nat → Nat} : ∀ {n : Nat}, (∀ i, i < n → f i = g i) → sm f n = sm g n
  | 0, _ => rfl
  | n + 1, h => by rw [sm_s, sm_s, sm_cg fun i hi => h i (by omega), h n (by omega)]
theorem sm_le {f g : Nat → Nat} : ∀ {n : Nat}, (∀ i, i < n → f i ≤ g i) → sm f n ≤ sm g n
  | 0, _ => Nat.le_refl _
  | n + 1, h => by
    have h1 := sm_le (f := f) (g := g) (n := n) fun i hi => h i (by omega)
    have h2 := h n (by omega)
    rw [sm_s, sm_s]
    omega
theorem sm_add (f g : Nat → Nat) : ∀ n : Nat, sm (fun i => f i + g i) n = sm f n + sm g n
  | 0 => rfl
  | n + 1 => by rw [sm_s, sm_s, sm_s, sm_add f g n]; omega
theorem sm_mul (a : Nat) (f : Nat → Nat) : ∀ n : Nat, sm (fun i => a * f i) n = a * sm f n
  | 0 => rfl
  | n + 1 => by rw [sm_s, sm_s, sm_mul a f n, Nat.mul_add]
theorem sm_const (a : Nat) : ∀ n : Nat, sm (fun _ => a) n = n * a
  | 0 => by rw [Nat.zero_mul]; rfl
  | n + 1 => by rw [sm_s, sm_const a n, Nat.succ_mul]
theorem sm_one {f : Nat → Nat} : ∀ {n : Nat}, ∀ i, i < n → f i ≤ sm f n
  | 0, i, hi => absurd hi (Nat.not_lt_zero i)
  | n + 1, i, hi => by
    rw [sm_s]
    by_cases e : i = n
    · subst e; omega
    · have h2 := sm_one (f := f) (n := n) i (by omega)
      omega
/-- the floors of parts that come to D * U, but for D * d: they come to U, but for d and one each -/
theorem floor_sum {n : Nat} {x q : Nat → Nat} {D U d : Nat} (hD : 0 < D) (hq : ∀ i, i < n → q i = x i / D) (hU : sm x n ≤ D * U) (hd : D * U ≤ sm x n + D * d) : sm q n ≤ U ∧ U ≤ sm q n + d + n := by
  have h1 : D * sm q n ≤ sm x n := by
    rw [← sm_mul]
    exact sm_le fun i hi => by rw [hq i hi]; exact Nat.mul_div_le _ _
  have h2 : sm x n ≤ D * (sm q n + n) := by
    have h3 : sm x n ≤ sm (fun i => D * (q i + 1)) n := sm_le fun i hi => by
      rw [hq i hi]
      exact Nat.le_of_lt (Nat.lt_mul_div_succ _ hD)
    rw [sm_mul, sm_add, sm_const, Nat.mul_one] at h3
    exact h3
  constructor
  · exact Nat.le_of_mul_le_mul_left (Nat.le_trans h1 hU) hD
  · refine Nat.le_of_mul_le_mul_left (c := D) ?_ hD
    have h4 : D * (sm q n + d + n) = D * (sm q n + n) + D * d := by rw [← Nat.mul_add]; congr 1; omega
    omega
/-- two sums, one in the other, either way round -/
theorem sm_swap (f : Nat → Nat → Nat) (m : Nat) : ∀ n : Nat, sm (fun i => sm (fun j => f i j) m) n = sm (fun j => sm (fun i => f i j) n) m
  | 0 => by
    show (0 : Nat) = sm (fun _ => 0) m
    rw [sm_const, Nat.mul_zero]
  | n + 1 => by
    rw [sm_s, sm_swap f m n, ← sm_add]
    rfl
/-- only one part is there -/
theorem sm_at {a k : Nat} : ∀ {n : Nat}, k < n → sm (fun j => if k = j then a else 0) n = a := by
  have z : ∀ n : Nat, n ≤ k → sm (fun j => if k = j then a else 0) n = 0 := by
    intro n
    induction n with
    | zero => intro _; rfl
    | succ n ih =>
      intro h
      rw [sm_s, ih (by omega), if_neg (by omega)]
  intro n
  induction n with
  | zero => intro h; omega
  | succ n ih =>
    intro h
    rw [sm_s]
    by_cases e : k = n
    · rw [z n (by omega), if_pos e]; omega
    · rw [ih (by omega), if_neg e]; omega
/-- parts of at most one each that come to their number are one each -/
theorem sm_full {f : Nat → Nat} : ∀ {n : Nat}, (∀ i, i < n → f i ≤ 1) → sm f n = n → ∀ i, i < n → f i = 1
  | 0, _, _, i, hi => absurd hi (Nat.not_lt_zero i)
  | n + 1, h, hs, i, hi => by
    have h1 : sm f n ≤ sm (fun _ => 1) n := sm_le fun j hj => h j (by omega)
    rw [sm_const, Nat.mul_one] at h1
    have h2 := h n (by omega)
    rw [sm_s] at hs
    by_cases e : i = n
    · subst e; omega
    · exact sm_full (f := f) (n := n) (fun j hj => h j (by omega)) (by omega) i (by omega)
-- ranks
abbrev lk (c : Nat → Nat) (a b : Nat) : Prop := c b < c a ∨ c a = c b ∧ a < b
theorem lk_irr {c : Nat → Nat} {a : Nat} : ¬ lk c a a := by unfold lk; omega
theorem lk_tr {c : Nat → Nat} {a b d : Nat} (h : lk c a b) (h' : lk c b d) : lk c a d := by unfold lk at *; omega
theorem lk_tot {c : Nat → Nat} {a b : Nat} (h : a ≠ b) : lk c a b ∨ lk c b a := by unfold lk; omega
/-- the rank of w among the first n -/
def rk (c : Nat → Nat) (n w : Nat) : Nat := sm (fun o => if lk c o w then 1 else 0) n
theorem rk_lt {c : Nat → Nat} {a b : Nat} : ∀ {n : Nat}, lk c a b → a < n → rk c n a < rk c n b := by
  intro n h ha
  have h1 : sm (fun o => (if lk c o a then 1 else 0) + (if a = o then 1 else 0)) n ≤ rk c n b := sm_le fun o _ => by
    by_cases e : a = o
    · subst e; rw [if_neg lk_irr, if_pos rfl, if_pos h]; decide
    · rw [if_neg e]
      by_cases h2 : lk c o a
      · rw [if_pos h2, if_pos (lk_tr h2 h)]; decide
      · rw [if_neg h2]; exact Nat.zero_le _
  rw [sm_add, sm_at ha] at h1
  unfold rk at *
  omega
theorem rk_in {c : Nat → Nat} {n w : Nat} (h : w < n) : rk c n w < n := by
  have h1 : sm (fun o => (if lk c o w then 1 else 0) + (if w = o then 1 else 0)) n ≤ sm (fun _ => 1) n := sm_le fun o _ => by
    by_cases e : w = o
    · subst e; rw [if_neg lk_irr, if_pos rfl]; decide
    · rw [if_neg e]; split <;> decide
  rw [sm_add, sm_at h, sm_const, Nat.mul_one] at h1
  unfold rk
  omega
theorem rk_inj {c : Nat → Nat} {n a b : Nat} (ha : a < n) (hb : b < n) (h : rk c n a = rk c n b) : a = b := by
  by_cases e : a = b
  · exact e
  · rcases lk_tot (c := c) e with h1 | h1
    · have := rk_lt h1 ha; omega
    · have := rk_lt h1 hb; omega
/-- for each rank how many have it: one -/
theorem rk_one {c : Nat → Nat} {n r : Nat} (hr : r < n) : sm (fun w => if rk c n w = r then 1 else 0) n = 1 := by
  have hle : ∀ j, j < n → sm (fun w => if rk c n w = j then 1 else 0) n ≤ 1 := by
    intro j _
    have key : ∀ k : Nat, k ≤ n → sm (fun w => if rk c n w = j then 1 else 0) k ≤ 1 ∧ ((∀ w, w < k → rk c n w ≠ j) → sm (fun w => if rk c n w = j then 1 else 0) k = 0) := by
      intro k
      induction k with
      | zero => intro _; exact ⟨Nat.zero_le _, fun _ => rfl⟩
      | succ k ih =>
        intro hk
        obtain ⟨i1, i2⟩ := ih (by omega)
        refine ⟨?_, fun h => ?_⟩
        · rw [sm_s]
          by_cases e : rk c n k = j
          · rw [i2 (fun w hw q => by have := rk_inj (c := c) (n := n) (a := w) (b := k) (by omega) (by omega) (q.trans e.symm); omega), if_pos e]; decide
          · rw [if_neg e]; omega
        · rw [sm_s, i2 (fun w hw => h w (by omega)), if_neg (h k (by omega))]
    exact (key n (Nat.le_refl n)).1
  have hs : sm (fun j => sm (fun w => if rk c n w = j then 1 else 0) n) n = n := by
    rw [← sm_swap (fun w j => if rk c n w = j then 1 else 0) n n]
    have h1 : ∀ w, w < n → sm (fun j => if rk c n w = j then 1 else 0) n = (fun _ => 1) w := fun w hw => sm_at (rk_in hw)
    rw [sm_cg h1, sm_const, Nat.mul_one]
  exact sm_full hle hs r hr
theorem rk_ex {c : Nat → Nat} {n r : Nat} (hr : r < n) : ∃ w, w < n ∧ rk c n w = r := by
  refine Classical.byContradiction fun h => ?_
  have h1 := rk_one (c := c) hr
  rw [sm_cg (g := fun _ => 0) (fun i hi => if_neg fun q => h ⟨i, hi, q⟩), sm_const, Nat.mul_zero] at h1
  omega
/-- the words by ranks have the same chances in all -/
theorem rk_sum {c : Nat → Nat} {n : Nat} {wr : Nat → Nat} (h : ∀ r, r < n → wr r < n ∧ rk c n (wr r) = r) : sm (fun r => c (wr r)) n = sm c n := by
  have h1 : ∀ r, r < n → c (wr r) = sm (fun w => if rk c n w = r then c w else 0) n := by
    intro r hr
    obtain ⟨a, b⟩ := h r hr
    rw [← sm_at (a := c (wr r)) a]
    refine sm_cg fun w hw => ?_
    by_cases e : wr r = w
    · subst e; rw [if_pos rfl, if_pos b]
    · rw [if_neg e, if_neg fun q => e (rk_inj a hw (b.trans q.symm))]
  rw [sm_cg h1, ← sm_swap (fun w r => if rk c n w = r then c w else 0) n n]
  exact sm_cg fun w hw => sm_at (rk_in hw)
/-- the ranks fall -/
theorem rk_fall {c : Nat → Nat} {n a b : Nat} (ha : a < n) (hb : b < n) (h : rk c n a < rk c n b) : c b ≤ c a := by
  by_cases e : a = b
  · subst e; omega
  · rcases lk_tot (c := c) e with h1 | h1
    · unfold lk at h1; omega
    · have := rk_lt h1 hb; omega
end
section
/-! pure layer 2 (DRAFT, never compiled yet): one refining of the chances, by each way; picks; costs; all in Nat -/
def bl (U way num n c S K p : Nat) : Nat :=
  if way = 0 then (c * 1000 + num) * U / (S * 1000 + num * n)
  else if way = 1 then (num * (c * U / S) + (1000 - num) * p) / 1000
  else if way = 2 then (c * U + K * p) / (S + K)
  else ((c * 1000 - num) * U + num * K * p) / (S * 1000)
/-- how many are above nothing -/
def kd (c : Nat → Nat) (n : Nat) : Nat := sm (fun i => if 0 < c i then 1 else 0) n
theorem kd_le {c : Nat → Nat} {n : Nat} : kd c n ≤ sm c n := sm_le fun i hi => by split <;> omega
/-- chances: all of them are the unit but for d -/
def Ch (U n d : Nat) (p : Nat → Nat) : Prop := sm p n ≤ U ∧ U ≤ sm p n + d
theorem Ch.each {U n d : Nat} {p : Nat → Nat} (h : Ch U n d p) : ∀ i, i < n → p i ≤ U := fun i hi => Nat.le_trans (sm_one i hi) h.1
theorem ch_start {U n : Nat} (hn : 0 < n) : Ch U n n (fun _ => U / n) := by
  have h := floor_sum (n := n) (x := fun _ => U) (q := fun _ => U / n) (D := n) (U := U) (d := 0) hn (fun _ _ => rfl) (by rw [sm_const]; exact Nat.le_refl _) (by rw [sm_const]; exact Nat.le_refl _)
  exact ⟨h.1, by omega⟩
theorem ch_blend {U n way num d : Nat} {c p q : Nat → Nat} (hn : 0 < n) (hnum : 1 ≤ num ∧ num ≤ 1000) (hS : way = 0 ∨ 0 < sm c n) (hd : n ≤ d) (hp : Ch U n d p) (hq : ∀ i, i < n → q i = bl U way num n (c i) (sm c n) (kd c n) (p i)) : Ch U n (d + n) q := by
  obtain ⟨p2, p3⟩ := hp
  have k1 : kd c n ≤ sm c n := kd_le
  have fin : ∀ (D : Nat) (x : Nat → Nat), 0 < D → (∀ i, i < n → q i = x i / D) → sm x n ≤ D * U → D * U ≤ sm x n + D * d → Ch U n (d + n) q := by
    intro D x hD hqx h1 h2
    obtain ⟨a, b⟩ := floor_sum hD hqx h1 h2
    exact ⟨a, by omega⟩
  by_cases w0 : way = 0
  · have hD : 0 < sm c n * 1000 + num * n := by
      have : 0 < num * n := Nat.mul_pos (by omega) hn
      omega
    have hx : sm (fun i => (c i * 1000 + num) * U) n = (sm c n * 1000 + num * n) * U := by
      rw [sm_cg (g := fun i => U * (1000 * c i + num)) (fun i _ => by rw [Nat.mul_comm, Nat.mul_comm (c i)]), sm_mul, sm_add, sm_mul, sm_const]
      rw [Nat.mul_comm U, Nat.mul_comm 1000, Nat.mul_comm n]
    refine fin _ (fun i => (c i * 1000 + num) * U) hD (fun i hi => by rw [hq i hi]; unfold bl; rw [if_pos w0]) (by rw [hx]; exact Nat.le_refl _) ?_
    rw [hx]; exact Nat.le_add_right _ _
  · have hS0 : 0 < sm c n := hS.resolve_left w0
    by_cases w1 : way = 1
    · obtain ⟨a1, a2⟩ := floor_sum (n := n) (x := fun i => c i * U) (q := fun i => c i * U / sm c n) (D := sm c n) (U := U) (d := 0) hS0 (fun _ _ => rfl)
        (by rw [sm_cg (g := fun i => U * c i) (fun i _ => Nat.mul_comm _ _), sm_mul, Nat.mul_comm]; exact Nat.le_refl _)
        (by rw [sm_cg (g := fun i => U * c i) (fun i _ => Nat.mul_comm _ _), sm_mul, Nat.mul_comm]; exact Nat.le_refl _)
      have hx : sm (fun i => num * (c i * U / sm c n) + (1000 - num) * p i) n = num * sm (fun i => c i * U / sm c n) n + (1000 - num) * sm p n := by rw [sm_add, sm_mul, sm_mul]
      have e1 : num * U + (1000 - num) * U = 1000 * U := by rw [← Nat.add_mul]; congr 1; omega
      refine fin 1000 (fun i => num * (c i * U / sm c n) + (1000 - num) * p i) (by decide) (fun i hi => by rw [hq i hi]; unfold bl; rw [if_neg w0, if_pos w1]) ?_ ?_
      · rw [hx]
        have h1 := Nat.mul_le_mul_left num a1
        have h2 := Nat.mul_le_mul_left (1000 - num) p2
        omega
      · rw [hx]
        have h1 := Nat.mul_le_mul_left num (show U ≤ sm (fun i => c i * U / sm c n) n + d by omega)
        have h2 := Nat.mul_le_mul_left (1000 - num) p3
        rw [Nat.mul_add] at h1 h2
        have e2 : num * d + (1000 - num) * d = 1000 * d := by rw [← Nat.add_mul]; congr 1; omega
        omega
    · by_cases w2 : way = 2
      · have hx : sm (fun i => c i * U + kd c n * p i) n = U * sm c n + kd c n * sm p n := by
          rw [sm_cg (g := fun i => U * c i + kd c n * p i) (fun i _ => by rw [Nat.mul_comm (c i)]), sm_add, sm_mul, sm_mul]
        refine fin (sm c n + kd c n) (fun i => c i * U + kd c n * p i) (by omega) (fun i hi => by rw [hq i hi]; unfold bl; rw [if_neg w0, if_neg w1, if_pos w2]) ?_ ?_
        · rw [hx, Nat.add_mul, Nat.mul_comm (sm c n)]
          have h1 := Nat.mul_le_mul_left (kd c n) p2
          omega
        · rw [hx, Nat.add_mul, Nat.add_mul, Nat.mul_comm (sm c n) U]
          have h1 := Nat.mul_le_mul_left (kd c n) p3
          rw [Nat.mul_add] at h1
          omega
      · have m1 : num * kd c n ≤ 1000 * sm c n := Nat.mul_le_mul hnum.2 k1
        have hl : sm (fun i => c i * 1000 - num) n + num * kd c n = 1000 * sm c n := by
          unfold kd
          rw [← sm_mul, ← sm_mul, ← sm_add]
          refine sm_cg fun i _ => ?_
          by_cases e : 0 < c i
          · rw [if_pos e]; omega
          · rw [if_neg e]; omega
        have hU : U * sm (fun i => c i * 1000 - num) n + num * kd c n * U = sm c n * 1000 * U := by rw [Nat.mul_comm (num * kd c n) U, ← Nat.mul_add, hl, Nat.mul_comm 1000, Nat.mul_comm U]
        have hx : sm (fun i => (c i * 1000 - num) * U + num * kd c n * p i) n = U * sm (fun i => c i * 1000 - num) n + num * kd c n * sm p n := by
          rw [sm_cg (g := fun i => U * (c i * 1000 - num) + num * kd c n * p i) (fun i _ => by rw [Nat.mul_comm (c i * 1000 - num)]), sm_add, sm_mul, sm_mul]
        refine fin (sm c n * 1000) (fun i => (c i * 1000 - num) * U + num * kd c n * p i) (by omega) (fun i hi => by rw [hq i hi]; unfold bl; rw [if_neg w0, if_neg w1, if_neg w2]) ?_ ?_
        · rw [hx]
          have h1 := Nat.mul_le_mul_left (num * kd c n) p2
          omega
        · rw [hx]
          have h1 := Nat.mul_le_mul_left (num * kd c n) p3
          rw [Nat.mul_add] at h1
          have h2 := Nat.mul_le_mul_right d m1
          rw [Nat.mul_comm 1000] at h2
          omega
-- a pick: with g i = (if u i then p i else 0); word r is taken where sm g r <= drawn < sm g (r + 1)
theorem pk_pos {u : Nat → Bool} {p : Nat → Nat} {drawn r : Nat} (h1 : sm (fun i => if u i then p i else 0) r ≤ drawn) (h2 : drawn < sm (fun i => if u i then p i else 0) (r + 1)) : u r = true ∧ 0 < p r := by
  rw [sm_s] at h2
  by_cases e : u r = true
  · rw [if_pos e] at h2; exact ⟨e, by omega⟩
  · rw [if_neg e] at h2; omega
/-- what is drawn lies below the sum, if that is above nothing -/
theorem drawn_lt {luck all : Nat} (hl : luck < 10000) (ha : 0 < all) : luck * all / 10000 < all := by
  have h1 : luck * all ≤ 9999 * all := Nat.mul_le_mul_right _ (by omega)
  omega
end
section
/-! pure layer 3: a tally as a list of keys and counts, strictly by the keys -/
def So : List (Nat × Nat) → Prop
  | [] => True
  | a :: l => (∀ b ∈ l, a.1 < b.1) ∧ So l
/-- how many keys stand below k -/
def bw : List (Nat × Nat) → Nat → Nat
  | [], _ => 0
  | a :: l, k => if a.1 < k then bw l k + 1 else 0
/-- the count of k -/
def gt : List (Nat × Nat) → Nat → Nat
  | [], _ => 0
  | a :: l, k => if a.1 = k then a.2 else gt l k
/-- k with count c, put in its place -/
def ins : List (Nat × Nat) → Nat → Nat → List (Nat × Nat)
  | [], k, c => [(k, c)]
  | a :: l, k, c => if a.1 < k then a :: ins l k c else (k, c) :: a :: l
/-- k's count is now c -/
def cst : List (Nat × Nat) → Nat → Nat → List (Nat × Nat)
  | [], _, _ => []
  | a :: l, k, c => if a.1 = k then (k, c) :: l else a :: cst l k c
/-- k is gone -/
def del : List (Nat × Nat) → Nat → List (Nat × Nat)
  | [], _ => []
  | a :: l, k => if a.1 = k then l else a :: del l k
theorem bw_le : ∀ (l : List (Nat × Nat)) (k : Nat), bw l k ≤ l.length
  | [], _ => Nat.le_refl _
  | a :: l, k => by
    unfold bw
    split
    · have := bw_le l k; simp only [List.length_cons]; omega
    · exact Nat.zero_le _
theorem gt_out : ∀ {l : List (Nat × Nat)} {k : Nat}, (∀ b ∈ l, b.1 ≠ k) → gt l k = 0
  | [], _, _ => rfl
  | a :: l, k, h => by
    unfold gt
    rw [if_neg (h a List.mem_cons_self)]
    exact gt_out fun b hb => h b (List.mem_cons_of_mem _ hb)
theorem gt_in : ∀ {l : List (Nat × Nat)}, So l → ∀ {b : Nat × Nat}, b ∈ l → gt l b.1 = b.2
  | [], _, b, hb => absurd hb List.not_mem_nil
  | a :: l, h, b, hb => by
    unfold gt
    rcases List.mem_cons.mp hb with e | e
    · subst e; rw [if_pos rfl]
    · rw [if_neg (fun q => by have := h.1 b e; omega)]
      exact gt_in h.2 e
/-- where two tallies with counts above nothing count alike, they are the same -/
theorem So.ext : ∀ {l l' : List (Nat × Nat)}, So l → So l' → (∀ b ∈ l, 0 < b.2) → (∀ b ∈ l', 0 < b.2) → (∀ k, gt l k = gt l' k) → l = l'
  | [], [], _, _, _, _, _ => rfl
  | [], b :: l', _, h', _, p', e => by
    have h1 := gt_in h' (b := b) List.mem_cons_self
    have h2 := p' b List.mem_cons_self
    rw [← e] at h1
    exact absurd h1 (by show ¬ 0 = b.2; omega)
  | a :: l, [], h, _, p, _, e => by
    have h1 := gt_in h (b := a) List.mem_cons_self
    have h2 := p a List.mem_cons_self
    rw [e] at h1
    exact absurd h1 (by show ¬ 0 = a.2; omega)
  | a :: l, b :: l', h, h', p, p', e => by
    have a1 := gt_in h (b := a) List.mem_cons_self
    have b1 := gt_in h' (b := b) List.mem_cons_self
    have a2 := p a List.mem_cons_self
    have b2 := p' b List.mem_cons_self
    have hk : a.1 = b.1 := by
      rcases Nat.lt_trichotomy a.1 b.1 with q | q | q
      · have h1 : gt (b :: l') a.1 = 0 := gt_out fun z hz => by
          rcases List.mem_cons.mp hz with r | r
          · subst r; omega
          · have := h'.1 z r; omega
        rw [e, h1] at a1; omega
      · exact q
      · have h1 : gt (a :: l) b.1 = 0 := gt_out fun z hz => by
          rcases List.mem_cons.mp hz with r | r
          · subst r; omega
          · have := h.1 z r; omega
        rw [← e, h1] at b1; omega
    have hc : a.2 = b.2 := by rw [← a1, ← b1, e, hk]
    have hab : a = b := Prod.ext hk hc
    subst hab
    congr 1
    refine So.ext h.2 h'.2 (fun z hz => p z (List.mem_cons_of_mem _ hz)) (fun z hz => p' z (List.mem_cons_of_mem _ hz)) fun k => ?_
    have := e k
    unfold gt at this
    by_cases q : a.1 = k
    · subst q
      rw [gt_out fun z hz => by have := h.1 z hz; omega, gt_out fun z hz => by have := h'.1 z hz; omega]
    · rw [if_neg q, if_neg q] at this; exact this
theorem bw_lt : ∀ {l : List (Nat × Nat)} {k i : Nat} (hi : i < l.length), i < bw l k → (l[i]).1 < k
  | [], _, _, hi, _ => absurd hi (Nat.not_lt_zero _)
  | a :: l, k, i, hi, h => by
    unfold bw at h
    split at h
    · rename_i q
      cases i with
      | zero => exact q
      | succ i => exact bw_lt (l := l) (Nat.lt_of_succ_lt_succ hi) (by omega)
    · omega
theorem bw_ge : ∀ {l : List (Nat × Nat)} {k i : Nat}, So l → (hi : i < l.length) → bw l k ≤ i → k ≤ (l[i]).1
  | [], _, _, _, hi, _ => absurd hi (Nat.not_lt_zero _)
  | a :: l, k, i, h, hi, hb => by
    unfold bw at hb
    split at hb
    · cases i with
      | zero => omega
      | succ i => exact bw_ge (l := l) h.2 (Nat.lt_of_succ_lt_succ hi) (by omega)
    · rename_i q
      cases i with
      | zero => show k ≤ a.1; omega
      | succ i =>
        have h1 := h.1 (l[i]'(Nat.lt_of_succ_lt_succ hi)) (List.getElem_mem _)
        show k ≤ (l[i]'(Nat.lt_of_succ_lt_succ hi)).1
        omega
/-- the place is told by what stands ahead of it and there -/
theorem bw_eq {l : List (Nat × Nat)} {k n : Nat} (hs : So l) (hn : n ≤ l.length) (h1 : ∀ i (hi : i < l.length), i < n → (l[i]).1 < k) (h2 : ∀ hi : n < l.length, k ≤ (l[n]).1) : n = bw l k := by
  have hb := bw_le l k
  rcases Nat.lt_trichotomy n (bw l k) with q | q | q
  · have a := h2 (by omega)
    have b := bw_lt (l := l) (k := k) (i := n) (by omega) q
    omega
  · exact q
  · have a := h1 (bw l k) (by omega) q
    have b := bw_ge (l := l) (k := k) (i := bw l k) hs (by omega) (Nat.le_refl _)
    omega
end
section
/-! pure layer 4: what putting in, counting anew and taking out do to a tally -/
theorem ins_at : ∀ (l : List (Nat × Nat)) (k c j : Nat), (ins l k c)[j]? = if j < bw l k then l[j]? else if j = bw l k then some (k, c) else l[j - 1]?
  | [], k, c, j => by
    unfold ins bw
    rw [if_neg (Nat.not_lt_zero j)]
    by_cases e : j = 0
    · subst e; rfl
    · rw [if_neg e, List.getElem?_eq_none (by simp only [List.length_cons, List.length_nil]; omega)]
      rfl
  | a :: l, k, c, j => by
    unfold ins bw
    by_cases q : a.1 < k
    · rw [if_pos q, if_pos q]
      cases j with
      | zero => rw [if_pos (Nat.succ_pos _)]; rfl
      | succ j =>
        rw [List.getElem?_cons_succ, ins_at l k c j]
        by_cases r : j < bw l k
        · rw [if_pos r, if_pos (by omega), List.getElem?_cons_succ]
        · rw [if_neg r, if_neg (show ¬ j + 1 < bw l k + 1 by omega)]
          by_cases r2 : j = bw l k
          · rw [if_pos r2, if_pos (show j + 1 = bw l k + 1 by omega)]
          · rw [if_neg r2, if_neg (show ¬ j + 1 = bw l k + 1 by omega)]
            cases j with
            | zero => omega
            | succ j => rfl
    · rw [if_neg q, if_neg q, if_neg (Nat.not_lt_zero j)]
      cases j with
      | zero => rfl
      | succ j => rfl
theorem ins_len : ∀ (l : List (Nat × Nat)) (k c : Nat), (ins l k c).length = l.length + 1
  | [], _, _ => rfl
  | a :: l, k, c => by
    unfold ins
    split
    · rw [List.length_cons, ins_len l k c]; rfl
    · rfl
theorem ins_mem : ∀ {l : List (Nat × Nat)} {k c : Nat} {b : Nat × Nat}, b ∈ ins l k c → b = (k, c) ∨ b ∈ l
  | [], _, _, b, h => Or.inl (List.mem_singleton.mp h)
  | a :: l, k, c, b, h => by
    unfold ins at h
    split at h
    · rcases List.mem_cons.mp h with e | e
      · exact Or.inr (e ▸ List.mem_cons_self)
      · rcases ins_mem e with r | r
        · exact Or.inl r
        · exact Or.inr (List.mem_cons_of_mem _ r)
    · exact List.mem_cons.mp h
theorem ins_So : ∀ {l : List (Nat × Nat)} {k c : Nat}, So l → (∀ b ∈ l, b.1 ≠ k) → So (ins l k c)
  | [], _, _, _, _ => ⟨fun _ h => absurd h List.not_mem_nil, trivial⟩
  | a :: l, k, c, h, n => by
    have na := n a List.mem_cons_self
    unfold ins
    split
    · rename_i q
      refine ⟨fun b hb => ?_, ins_So h.2 fun b hb => n b (List.mem_cons_of_mem _ hb)⟩
      rcases ins_mem hb with r | r
      · rw [r]; exact q
      · exact h.1 b r
    · rename_i q
      refine ⟨fun b hb => ?_, h⟩
      rcases List.mem_cons.mp hb with r | r
      · rw [r]; show k < a.1; omega
      · have := h.1 b r; show k < b.1; omega
theorem ins_gt : ∀ {l : List (Nat × Nat)} {k c : Nat}, (∀ b ∈ l, b.1 ≠ k) → ∀ z, gt (ins l k c) z = if k = z then c else gt l z
  | [], k, c, _, z => rfl
  | a :: l, k, c, n, z => by
    have na := n a List.mem_cons_self
    unfold ins
    split
    · unfold gt
      rw [ins_gt (fun b hb => n b (List.mem_cons_of_mem _ hb)) z]
      by_cases e : a.1 = z
      · rw [if_pos e, if_pos e, if_neg (by omega)]
      · rw [if_neg e, if_neg e]
    · rfl
theorem cst_at : ∀ {l : List (Nat × Nat)} {k c d : Nat}, So l → l[bw l k]? = some (k, d) → ∀ j, (cst l k c)[j]? = if j = bw l k then some (k, c) else l[j]?
  | [], k, c, d, _, h, j => by cases h
  | a :: l, k, c, d, hs, h, j => by
    unfold bw at h
    unfold cst bw
    by_cases q : a.1 < k
    · rw [if_pos q] at h
      rw [if_pos q, if_neg (by omega)]
      cases j with
      | zero => rw [if_neg (by omega)]; rfl
      | succ j =>
        rw [List.getElem?_cons_succ, List.getElem?_cons_succ, cst_at (c := c) hs.2 h j]
        by_cases r : j = bw l k
        · rw [if_pos r, if_pos (by omega)]
        · rw [if_neg r, if_neg (by omega)]
    · rw [if_neg q] at h
      have e : a = (k, d) := Option.some.inj h
      rw [if_neg q, if_pos (by rw [e])]
      cases j with
      | zero => rfl
      | succ j => rfl
theorem cst_len : ∀ (l : List (Nat × Nat)) (k c : Nat), (cst l k c).length = l.length
  | [], _, _ => rfl
  | a :: l, k, c => by
    unfold cst
    split
    · rfl
    · rw [List.length_cons, cst_len l k c]; rfl
theorem cst_mem : ∀ {l : List (Nat × Nat)} {k c : Nat} {b : Nat × Nat}, b ∈ cst l k c → b = (k, c) ∨ b ∈ l
  | [], _, _, b, h => absurd h List.not_mem_nil
  | a :: l, k, c, b, h => by
    unfold cst at h
    split at h
    · rcases List.mem_cons.mp h with e | e
      · exact Or.inl e
      · exact Or.inr (List.mem_cons_of_mem _ e)
    · rcases List.mem_cons.mp h with e | e
      · exact Or.inr (e ▸ List.mem_cons_self)
      · rcases cst_mem e with r | r
        · exact Or.inl r
        · exact Or.inr (List.mem_cons_of_mem _ r)
theorem cst_key : ∀ {l : List (Nat × Nat)} {k c : Nat} {b : Nat × Nat}, b ∈ cst l k c → ∃ b' ∈ l, b'.1 = b.1
  | [], _, _, b, h => absurd h List.not_mem_nil
  | a :: l, k, c, b, h => by
    unfold cst at h
    split at h
    · rename_i q
      rcases List.mem_cons.mp h with e | e
      · exact ⟨a, List.mem_cons_self, by rw [e]; exact q⟩
      · exact ⟨b, List.mem_cons_of_mem _ e, rfl⟩
    · rcases List.mem_cons.mp h with e | e
      · exact ⟨a, List.mem_cons_self, by rw [e]⟩
      · obtain ⟨b', h1, h2⟩ := cst_key e
        exact ⟨b', List.mem_cons_of_mem _ h1, h2⟩
theorem cst_So : ∀ {l : List (Nat × Nat)} {k c : Nat}, So l → So (cst l k c)
  | [], _, _, _ => trivial
  | a :: l, k, c, h => by
    unfold cst
    split
    · rename_i q
      exact ⟨fun b hb => by have := h.1 b hb; show k < b.1; omega, h.2⟩
    · refine ⟨fun b hb => ?_, cst_So h.2⟩
      obtain ⟨b', h1, h2⟩ := cst_key hb
      have := h.1 b' h1
      omega
theorem cst_gt : ∀ {l : List (Nat × Nat)} {k c : Nat}, (∃ b ∈ l, b.1 = k) → ∀ z, gt (cst l k c) z = if k = z then c else gt l z
  | [], k, c, h, z => by obtain ⟨b, hb, _⟩ := h; cases hb
  | a :: l, k, c, h, z => by
    unfold cst
    by_cases q : a.1 = k
    · rw [if_pos q]
      unfold gt
      by_cases e : k = z
      · rw [if_pos e, if_pos e]
      · rw [if_neg e, if_neg e, if_neg (by omega)]
    · rw [if_neg q]
      unfold gt
      have h' : ∃ b ∈ l, b.1 = k := by
        obtain ⟨b, hb, e⟩ := h
        rcases List.mem_cons.mp hb with r | r
        · rw [r] at e; exact absurd e q
        · exact ⟨b, r, e⟩
      rw [cst_gt h' z]
      by_cases e : a.1 = z
      · rw [if_pos e, if_pos e, if_neg (by omega)]
      · rw [if_neg e, if_neg e]
theorem del_at : ∀ {l : List (Nat × Nat)} {k d : Nat}, So l → l[bw l k]? = some (k, d) → ∀ j, (del l k)[j]? = if j < bw l k then l[j]? else l[j + 1]?
  | [], k, d, _, h, j => by cases h
  | a :: l, k, d, hs, h, j => by
    unfold bw at h
    unfold del bw
    by_cases q : a.1 < k
    · rw [if_pos q] at h
      rw [if_pos q, if_neg (by omega)]
      cases j with
      | zero => rw [if_pos (by omega)]; rfl
      | succ j =>
        rw [List.getElem?_cons_succ, del_at hs.2 h j]
        by_cases r : j < bw l k
        · rw [if_pos r, if_pos (by omega), List.getElem?_cons_succ]
        · rw [if_neg r, if_neg (by omega), List.getElem?_cons_succ]
    · rw [if_neg q] at h
      have e : a = (k, d) := Option.some.inj h
      rw [if_neg q, if_pos (by rw [e]), if_neg (Nat.not_lt_zero j), List.getElem?_cons_succ]
theorem del_mem : ∀ {l : List (Nat × Nat)} {k : Nat} {b : Nat × Nat}, b ∈ del l k → b ∈ l
  | [], _, _, h => absurd h List.not_mem_nil
  | a :: l, k, b, h => by
    unfold del at h
    split at h
    · exact List.mem_cons_of_mem _ h
    · rcases List.mem_cons.mp h with e | e
      · exact e ▸ List.mem_cons_self
      · exact List.mem_cons_of_mem _ (del_mem e)
theorem del_So : ∀ {l : List (Nat × Nat)} {k : Nat}, So l → So (del l k)
  | [], _, _ => trivial
  | a :: l, k, h => by
    unfold del
    split
    · exact h.2
    · exact ⟨fun b hb => h.1 b (del_mem hb), del_So h.2⟩
theorem del_len : ∀ {l : List (Nat × Nat)} {k : Nat}, (∃ b ∈ l, b.1 = k) → (del l k).length + 1 = l.length
  | [], _, h => by obtain ⟨b, hb, _⟩ := h; cases hb
  | a :: l, k, h => by
    unfold del
    by_cases q : a.1 = k
    · rw [if_pos q]; rfl
    · rw [if_neg q, List.length_cons, List.length_cons]
      obtain ⟨b, hb, e⟩ := h
      rcases List.mem_cons.mp hb with r | r
      · rw [r] at e; exact absurd e q
      · rw [del_len ⟨b, r, e⟩]
theorem del_gt : ∀ {l : List (Nat × Nat)} {k : Nat}, So l → ∀ z, gt (del l k) z = if k = z then 0 else gt l z
  | [], k, _, z => by unfold del gt; split <;> rfl
  | a :: l, k, h, z => by
    unfold del
    by_cases q : a.1 = k
    · rw [if_pos q]
      by_cases e : k = z
      · rw [if_pos e]
        exact gt_out fun b hb => by have := h.1 b hb; omega
      · rw [if_neg e]
        show gt l z = if a.1 = z then a.2 else gt l z
        rw [if_neg (by omega)]
    · rw [if_neg q]
      unfold gt
      rw [del_gt h.2 z]
      by_cases e : a.1 = z
      · rw [if_pos e, if_pos e, if_neg (by omega)]
      · rw [if_neg e, if_neg e]
theorem So_lt : ∀ {l : List (Nat × Nat)} {i j : Nat} (_ : So l) (hij : i < j) (hj : j < l.length), (l[i]'(Nat.lt_trans hij hj)).1 < (l[j]).1
  | [], _, _, _, _, hj => absurd hj (Nat.not_lt_zero _)
  | a :: l, i, j, h, hij, hj => by
    cases j with
    | zero => omega
    | succ j =>
      cases i with
      | zero => exact h.1 _ (List.getElem_mem _)
      | succ i => exact So_lt h.2 (Nat.lt_of_succ_lt_succ hij) (Nat.lt_of_succ_lt_succ hj)
/-- k stands where it would -/
theorem So.there {l : List (Nat × Nat)} (h : So l) {b : Nat × Nat} (hb : b ∈ l) : l[bw l b.1]? = some b := by
  obtain ⟨i, hi, e⟩ := List.mem_iff_getElem.mp hb
  have h1 : i = bw l b.1 := by
    rcases Nat.lt_trichotomy i (bw l b.1) with q | q | q
    · have := bw_lt (l := l) hi q; rw [e] at this; omega
    · exact q
    · have h3 : bw l b.1 < l.length := by omega
      have h2 := bw_ge (l := l) (k := b.1) h h3 (Nat.le_refl _)
      have h4 : (l[bw l b.1]).1 < (l[i]).1 := So_lt h q hi
      rw [e] at h4
      omega
  rw [← h1, List.getElem?_eq_getElem hi, e]
end
section
/-! pure layer 5: raising and lowering a key's count -/
def rs (l : List (Nat × Nat)) (k t : Nat) : List (Nat × Nat) := if 0 < gt l k then cst l k (min 100000000 (gt l k + t)) else ins l k t
def lw (l : List (Nat × Nat)) (k t : Nat) : List (Nat × Nat) := if t < gt l k then cst l k (gt l k - t) else del l k
/-- counts above nothing -/
def Po (l : List (Nat × Nat)) : Prop := ∀ b ∈ l, 0 < b.2
theorem gt_has : ∀ {l : List (Nat × Nat)} {k : Nat}, 0 < gt l k → ∃ b ∈ l, b.1 = k ∧ b.2 = gt l k
  | [], _, h => by unfold gt at h; omega
  | a :: l, k, h => by
    unfold gt at h ⊢
    by_cases q : a.1 = k
    · rw [if_pos q]; exact ⟨a, List.mem_cons_self, q, rfl⟩
    · rw [if_neg q] at h ⊢
      obtain ⟨b, h1, h2⟩ := gt_has h
      exact ⟨b, List.mem_cons_of_mem _ h1, h2⟩
theorem gt_none {l : List (Nat × Nat)} {k : Nat} (hs : So l) (hp : Po l) (h : ¬ 0 < gt l k) : ∀ b ∈ l, b.1 ≠ k := fun b hb e => by
  have h1 := gt_in hs hb
  have h2 := hp b hb
  rw [e] at h1
  omega
theorem rs_So {l : List (Nat × Nat)} {k t : Nat} (hs : So l) (hp : Po l) : So (rs l k t) := by
  unfold rs
  split
  · exact cst_So hs
  · rename_i h; exact ins_So hs (gt_none hs hp h)
theorem rs_mem {l : List (Nat × Nat)} {k t : Nat} {b : Nat × Nat} (h : b ∈ rs l k t) : b = (k, min 100000000 (gt l k + t)) ∨ b = (k, t) ∨ b ∈ l := by
  unfold rs at h
  split at h
  · rcases cst_mem h with q | q
    · exact Or.inl q
    · exact Or.inr (Or.inr q)
  · exact Or.inr (ins_mem h)
theorem rs_Po {l : List (Nat × Nat)} {k t : Nat} (hp : Po l) (ht : 0 < t) : Po (rs l k t) := fun b hb => by
  rcases rs_mem hb with e | e | e
  · rw [e]; show 0 < min 100000000 (gt l k + t); omega
  · rw [e]; exact ht
  · exact hp b e
theorem rs_gt {l : List (Nat × Nat)} {k t : Nat} (hs : So l) (hp : Po l) (hb : gt l k + t ≤ 100000000) (z : Nat) : gt (rs l k t) z = if k = z then gt l k + t else gt l z := by
  unfold rs
  split
  · rename_i h
    obtain ⟨b, h1, h2, h3⟩ := gt_has h
    rw [cst_gt ⟨b, h1, h2⟩ z]
    rw [Nat.min_eq_right hb]
  · rename_i h
    rw [ins_gt (gt_none hs hp h) z]
    have : gt l k = 0 := by omega
    rw [this, Nat.zero_add]
theorem rs_len {l : List (Nat × Nat)} {k t : Nat} : (rs l k t).length ≤ l.length + 1 := by
  unfold rs
  split
  · rw [cst_len]; omega
  · rw [ins_len]; exact Nat.le_refl _
theorem del_none : ∀ {l : List (Nat × Nat)} {k : Nat}, (∀ b ∈ l, b.1 ≠ k) → del l k = l
  | [], _, _ => rfl
  | a :: l, k, h => by
    unfold del
    rw [if_neg (h a List.mem_cons_self), del_none fun b hb => h b (List.mem_cons_of_mem _ hb)]
theorem lw_So {l : List (Nat × Nat)} {k t : Nat} (hs : So l) : So (lw l k t) := by
  unfold lw
  split
  · exact cst_So hs
  · exact del_So hs
theorem lw_mem {l : List (Nat × Nat)} {k t : Nat} {b : Nat × Nat} (h : b ∈ lw l k t) : (b = (k, gt l k - t) ∧ t < gt l k) ∨ b ∈ l := by
  unfold lw at h
  split at h
  · rename_i q
    rcases cst_mem h with e | e
    · exact Or.inl ⟨e, q⟩
    · exact Or.inr e
  · exact Or.inr (del_mem h)
theorem lw_Po {l : List (Nat × Nat)} {k t : Nat} (hp : Po l) : Po (lw l k t) := fun b hb => by
  rcases lw_mem hb with ⟨e, q⟩ | e
  · rw [e]; show 0 < gt l k - t; omega
  · exact hp b e
theorem lw_gt {l : List (Nat × Nat)} {k t : Nat} (hs : So l) (z : Nat) : gt (lw l k t) z = if k = z then gt l k - t else gt l z := by
  unfold lw
  split
  · rename_i h
    obtain ⟨b, h1, h2, h3⟩ := gt_has (l := l) (k := k) (by omega)
    exact cst_gt ⟨b, h1, h2⟩ z
  · rename_i h
    rw [del_gt hs z]
    have : gt l k - t = 0 := by omega
    rw [this]
theorem lw_len {l : List (Nat × Nat)} {k t : Nat} : (lw l k t).length ≤ l.length := by
  unfold lw
  split
  · rw [cst_len]; exact Nat.le_refl _
  · by_cases h : ∃ b ∈ l, b.1 = k
    · have := del_len h; omega
    · rw [del_none fun b hb e => h ⟨b, hb, e⟩]; exact Nat.le_refl _
-- many at once
def rsA (l : List (Nat × Nat)) (t : Nat) : List Nat → List (Nat × Nat)
  | [] => l
  | k :: ks => rsA (rs l k t) t ks
def lwA (l : List (Nat × Nat)) (t : Nat) : List Nat → List (Nat × Nat)
  | [] => l
  | k :: ks => lwA (lw l k t) t ks
/-- how often k stands in a list of keys -/
def oc (k : Nat) : List Nat → Nat
  | [] => 0
  | z :: ks => (if z = k then 1 else 0) + oc k ks
theorem oc_cons (k z : Nat) (ks : List Nat) : oc k (z :: ks) = (if z = k then 1 else 0) + oc k ks := rfl
theorem oc_le (k : Nat) : ∀ ks : List Nat, oc k ks ≤ ks.length
  | [] => Nat.le_refl _
  | z :: ks => by
    have := oc_le k ks
    rw [oc_cons, List.length_cons]
    split <;> omega
theorem rsA_all {t B : Nat} (ht : 0 < t) : ∀ (ks : List Nat) {l : List (Nat × Nat)}, So l → Po l → (∀ k, gt l k ≤ B) → B + t * ks.length ≤ 100000000 → So (rsA l t ks) ∧ Po (rsA l t ks) ∧ (∀ k, gt (rsA l t ks) k = gt l k + t * oc k ks) ∧ (rsA l t ks).length ≤ l.length + ks.length
  | [], l, hs, hp, _, _ => ⟨hs, hp, fun k => by show gt l k = gt l k + t * 0; omega, Nat.le_refl _⟩
  | z :: ks, l, hs, hp, hB, hb => by
    rw [List.length_cons, Nat.mul_succ] at hb
    have hz : gt l z + t ≤ 100000000 := by have := hB z; omega
    have hg := rs_gt hs hp hz
    obtain ⟨a1, a2, a3, a4⟩ := rsA_all (t := t) (B := B + t) ht ks (rs_So (k := z) (t := t) hs hp) (rs_Po (k := z) hp ht) (fun k => by
      rw [hg k]
      have := hB k
      have := hB z
      split <;> omega) (by omega)
    refine ⟨a1, a2, fun k => ?_, ?_⟩
    · show gt (rsA (rs l z t) t ks) k = _
      rw [a3 k, hg k]
      rw [oc_cons, Nat.mul_add]
      by_cases e : z = k
      · subst e; rw [if_pos rfl, if_pos rfl]; omega
      · rw [if_neg e, if_neg e]; omega
    · show (rsA (rs l z t) t ks).length ≤ _
      have := rs_len (l := l) (k := z) (t := t)
      rw [List.length_cons]
      omega
theorem lwA_all {t : Nat} : ∀ (ks : List Nat) {l : List (Nat × Nat)}, So l → Po l → So (lwA l t ks) ∧ Po (lwA l t ks) ∧ (∀ k, gt (lwA l t ks) k = gt l k - t * oc k ks) ∧ (lwA l t ks).length ≤ l.length
  | [], l, hs, hp => ⟨hs, hp, fun k => by show gt l k = gt l k - t * 0; omega, Nat.le_refl _⟩
  | z :: ks, l, hs, hp => by
    have hg := lw_gt (k := z) (t := t) hs
    obtain ⟨a1, a2, a3, a4⟩ := lwA_all (t := t) ks (lw_So (k := z) (t := t) hs) (lw_Po (k := z) (t := t) hp)
    refine ⟨a1, a2, fun k => ?_, ?_⟩
    · show gt (lwA (lw l z t) t ks) k = _
      rw [a3 k, hg k]
      rw [oc_cons, Nat.mul_add]
      by_cases e : z = k
      · subst e; rw [if_pos rfl, if_pos rfl]; omega
      · rw [if_neg e, if_neg e]; omega
    · show (lwA (lw l z t) t ks).length ≤ _
      have := lw_len (l := l) (k := z) (t := t)
      omega
/-- raised and lowered by the same keys: as it was -/
theorem rs_lw {t B : Nat} {l : List (Nat × Nat)} {ks : List Nat} (ht : 0 < t) (hs : So l) (hp : Po l) (hB : ∀ k, gt l k ≤ B) (hb : B + t * ks.length ≤ 100000000) : lwA (rsA l t ks) t ks = l := by
  obtain ⟨a1, a2, a3, _⟩ := rsA_all ht ks hs hp hB hb
  obtain ⟨b1, b2, b3, _⟩ := lwA_all (t := t) ks a1 a2
  exact So.ext b1 hs b2 hp fun k => by rw [b3 k, a3 k]; omega
end
section
/-! pure layer 6: what is gathered behind a context: the first entries alone, one entry more -/
theorem So_take : ∀ {l : List (Nat × Nat)} (n : Nat), So l → So (l.take n)
  | [], n, _ => by rw [List.take_nil]; trivial
  | a :: l, 0, _ => trivial
  | a :: l, n + 1, h => ⟨fun b hb => h.1 b (List.mem_of_mem_take hb), So_take n h.2⟩
theorem gt_take_s : ∀ {l : List (Nat × Nat)} {i : Nat} {b : Nat × Nat}, So l → l[i]? = some b → ∀ k, gt (l.take (i + 1)) k = if b.1 = k then b.2 else gt (l.take i) k
  | [], _, _, _, h, _ => by cases h
  | a :: l, 0, b, _, h, k => by cases h; rfl
  | a :: l, i + 1, b, hs, h, k => by
    have h' : l[i]? = some b := h
    have hb : b ∈ l := List.mem_of_getElem? h'
    have hab := hs.1 b hb
    have ih := gt_take_s hs.2 h' k
    show (if a.1 = k then a.2 else gt (l.take (i + 1)) k) = if b.1 = k then b.2 else if a.1 = k then a.2 else gt (l.take i) k
    rw [ih]
    by_cases e : a.1 = k
    · rw [if_pos e, if_pos e, if_neg (by omega)]
    · rw [if_neg e, if_neg e]
/-- ahead of the place nothing above is counted -/
theorem gt_take_0 {l : List (Nat × Nat)} {i k : Nat} (h : ∀ j (hj : j < l.length), j < i → (l[j]).1 < k) : gt (l.take i) k = 0 := gt_out fun b hb => by
  obtain ⟨j, hj, e⟩ := List.mem_iff_getElem.mp hb
  rw [List.length_take] at hj
  rw [List.getElem_take] at e
  have := h j (by omega) (by omega)
  rw [e] at this
  omega
/-- what lies behind the place isn't counted below it -/
theorem gt_take_all : ∀ {l : List (Nat × Nat)} {i k : Nat}, (∀ j (hj : j < l.length), i ≤ j → k < (l[j]).1) → gt (l.take i) k = gt l k
  | [], i, k, _ => by rw [List.take_nil]
  | a :: l, 0, k, h => by
    show 0 = gt (a :: l) k
    refine (gt_out fun b hb => ?_).symm
    obtain ⟨j, hj, e⟩ := List.mem_iff_getElem.mp hb
    have := h j hj (Nat.zero_le _)
    rw [e] at this
    omega
  | a :: l, i + 1, k, h => by
    show (if a.1 = k then a.2 else gt (l.take i) k) = if a.1 = k then a.2 else gt l k
    rw [gt_take_all fun j hj hi => h (j + 1) (Nat.succ_lt_succ hj) (Nat.succ_le_succ hi)]
theorem sm_upd {f : Nat → Nat} {w v : Nat} (h0 : f w = 0) : ∀ {n : Nat}, w < n → sm (fun j => if j = w then v else f j) n = sm f n + v
  | 0, h => absurd h (Nat.not_lt_zero _)
  | n + 1, h => by
    rw [sm_s, sm_s]
    by_cases e : n = w
    · subst e
      rw [if_pos rfl, h0, sm_cg (g := f) fun i hi => if_neg (by omega)]
      omega
    · rw [if_neg e, sm_upd h0 (by omega)]
      omega
/-- the own counts of the first i entries, behind the keys from F on -/
def ow (l : List (Nat × Nat)) (F i w : Nat) : Nat := gt (l.take i) (F + w + 1)
theorem ow_s {l : List (Nat × Nat)} {F i w : Nat} {b : Nat × Nat} (hs : So l) (hb : l[i]? = some b) (hw : b.1 = F + w + 1) : (∀ j, ow l F (i + 1) j = if j = w then b.2 else ow l F i j) ∧ ow l F i w = 0 := by
  have hi : i < l.length := (List.getElem?_eq_some_iff.mp hb).1
  have he : l[i] = b := (List.getElem?_eq_some_iff.mp hb).2
  refine ⟨fun j => ?_, ?_⟩
  · unfold ow
    rw [gt_take_s hs hb]
    by_cases e : j = w
    · subst e; rw [if_pos hw, if_pos rfl]
    · rw [if_neg (by omega), if_neg e]
  · refine gt_take_0 fun j hj hji => ?_
    have := So_lt hs hji hi
    rw [he] at this
    omega
theorem ow_sum {l : List (Nat × Nat)} {F i w n : Nat} {b : Nat × Nat} (hs : So l) (hp : Po l) (hb : l[i]? = some b) (hw : b.1 = F + w + 1) (hn : w < n) : sm (ow l F (i + 1)) n = sm (ow l F i) n + b.2 ∧ kd (ow l F (i + 1)) n = kd (ow l F i) n + 1 := by
  obtain ⟨h1, h2⟩ := ow_s hs hb hw
  have hpos := hp b (List.mem_of_getElem? hb)
  constructor
  · rw [sm_cg fun j _ => h1 j, sm_upd h2 hn]
  · unfold kd
    rw [← sm_upd (f := fun j => if 0 < ow l F i j then 1 else 0) (w := w) (v := 1) (by rw [h2]; rfl) hn]
    refine sm_cg fun j _ => ?_
    rw [h1 j]
    by_cases e : j = w
    · rw [if_pos e, if_pos e, if_pos hpos]
    · rw [if_neg e, if_neg e]
theorem ow_0 {l : List (Nat × Nat)} {F : Nat} (w : Nat) : ow l F (bw l F) w = 0 := gt_take_0 fun j hj h => by
  have := bw_lt (l := l) hj h
  omega
theorem ow_end {l : List (Nat × Nat)} {F e w : Nat} (hw : w < 13) (h : ∀ j (hj : j < l.length), e ≤ j → F + 14 ≤ (l[j]).1) : ow l F e w = gt l (F + w + 1) := gt_take_all fun j hj hi => by
  have := h j hj hi
  omega
end
