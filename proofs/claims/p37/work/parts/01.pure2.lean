/-! pure layer 2 (DRAFT, never compiled yet): one refining of the chances, by each way; picks; costs; all in Nat -/
def bl (U way num n c S K p : Nat) : Nat :=
  if way = 0 then (c * 1000 + num) * U / (S * 1000 + num * n)
  else if way = 1 then (num * (c * U / S) + (1000 - num) * p) / 1000
  else if way = 2 then (c * U + K * p) / (S + K)
  else ((c * 1000 - num) * U + num * K * p) / (S * 1000)
/-- how many are above nothing -/
def kd (c : Nat → Nat) (n : Nat) : Nat := sm (fun i => if 0 < c i then 1 else 0) n
theorem kd_le {c : Nat → Nat} {n : Nat} : kd c n ≤ sm c n := sm_le fun i hi => by split <;> omega
/-- chances: all of them are the unit but for d -/
def Ch (U n d : Nat) (p : Nat → Nat) : Prop := sm p n ≤ U ∧ U ≤ sm p n + d
theorem Ch.each {U n d : Nat} {p : Nat → Nat} (h : Ch U n d p) : ∀ i, i < n → p i ≤ U := fun i hi => Nat.le_trans (sm_one i hi) h.1
theorem ch_start {U n : Nat} (hn : 0 < n) : Ch U n n (fun _ => U / n) := by
  have h := floor_sum (n := n) (x := fun _ => U) (q := fun _ => U / n) (D := n) (U := U) (d := 0) hn (fun _ _ => rfl) (by rw [sm_const]; exact Nat.le_refl _) (by rw [sm_const]; exact Nat.le_refl _)
  exact ⟨h.1, by omega⟩
theorem ch_blend {U n way num d : Nat} {c p q : Nat → Nat} (hn : 0 < n) (hnum : 1 ≤ num ∧ num ≤ 1000) (hS : way = 0 ∨ 0 < sm c n) (hd : n ≤ d) (hp : Ch U n d p) (hq : ∀ i, i < n → q i = bl U way num n (c i) (sm c n) (kd c n) (p i)) : Ch U n (d + n) q := by
  obtain ⟨p2, p3⟩ := hp
  have k1 : kd c n ≤ sm c n := kd_le
  have fin : ∀ (D : Nat) (x : Nat → Nat), 0 < D → (∀ i, i < n → q i = x i / D) → sm x n ≤ D * U → D * U ≤ sm x n + D * d → Ch U n (d + n) q := by
    intro D x hD hqx h1 h2
    obtain ⟨a, b⟩ := floor_sum hD hqx h1 h2
    exact ⟨a, by omega⟩
  by_cases w0 : way = 0
  · have hD : 0 < sm c n * 1000 + num * n := by
      have : 0 < num * n := Nat.mul_pos (by omega) hn
      omega
    have hx : sm (fun i => (c i * 1000 + num) * U) n = (sm c n * 1000 + num * n) * U := by
      rw [sm_cg (g := fun i => U * (1000 * c i + num)) (fun i _ => by rw [Nat.mul_comm, Nat.mul_comm (c i)]), sm_mul, sm_add, sm_mul, sm_const]
      rw [Nat.mul_comm U, Nat.mul_comm 1000, Nat.mul_comm n]
    refine fin _ (fun i => (c i * 1000 + num) * U) hD (fun i hi => by rw [hq i hi]; unfold bl; rw [if_pos w0]) (by rw [hx]; exact Nat.le_refl _) ?_
    rw [hx]; exact Nat.le_add_right _ _
  · have hS0 : 0 < sm c n := hS.resolve_left w0
    by_cases w1 : way = 1
    · obtain ⟨a1, a2⟩ := floor_sum (n := n) (x := fun i => c i * U) (q := fun i => c i * U / sm c n) (D := sm c n) (U := U) (d := 0) hS0 (fun _ _ => rfl)
        (by rw [sm_cg (g := fun i => U * c i) (fun i _ => Nat.mul_comm _ _), sm_mul, Nat.mul_comm]; exact Nat.le_refl _)
        (by rw [sm_cg (g := fun i => U * c i) (fun i _ => Nat.mul_comm _ _), sm_mul, Nat.mul_comm]; exact Nat.le_refl _)
      have hx : sm (fun i => num * (c i * U / sm c n) + (1000 - num) * p i) n = num * sm (fun i => c i * U / sm c n) n + (1000 - num) * sm p n := by rw [sm_add, sm_mul, sm_mul]
      have e1 : num * U + (1000 - num) * U = 1000 * U := by rw [← Nat.add_mul]; congr 1; omega
      refine fin 1000 (fun i => num * (c i * U / sm c n) + (1000 - num) * p i) (by decide) (fun i hi => by rw [hq i hi]; unfold bl; rw [if_neg w0, if_pos w1]) ?_ ?_
      · rw [hx]
        have h1 := Nat.mul_le_mul_left num a1
        have h2 := Nat.mul_le_mul_left (1000 - num) p2
        omega
      · rw [hx]
        have h1 := Nat.mul_le_mul_left num (show U ≤ sm (fun i => c i * U / sm c n) n + d by omega)
        have h2 := Nat.mul_le_mul_left (1000 - num) p3
        rw [Nat.mul_add] at h1 h2
        have e2 : num * d + (1000 - num) * d = 1000 * d := by rw [← Nat.add_mul]; congr 1; omega
        omega
    · by_cases w2 : way = 2
      · have hx : sm (fun i => c i * U + kd c n * p i) n = U * sm c n + kd c n * sm p n := by
          rw [sm_cg (g := fun i => U * c i + kd c n * p i) (fun i _ => by rw [Nat.mul_comm (c i)]), sm_add, sm_mul, sm_mul]
        refine fin (sm c n + kd c n) (fun i => c i * U + kd c n * p i) (by omega) (fun i hi => by rw [hq i hi]; unfold bl; rw [if_neg w0, if_neg w1, if_pos w2]) ?_ ?_
        · rw [hx, Nat.add_mul, Nat.mul_comm (sm c n)]
          have h1 := Nat.mul_le_mul_left (kd c n) p2
          omega
        · rw [hx, Nat.add_mul, Nat.add_mul, Nat.mul_comm (sm c n) U]
          have h1 := Nat.mul_le_mul_left (kd c n) p3
          rw [Nat.mul_add] at h1
          omega
      · have m1 : num * kd c n ≤ 1000 * sm c n := Nat.mul_le_mul hnum.2 k1
        have hl : sm (fun i => c i * 1000 - num) n + num * kd c n = 1000 * sm c n := by
          unfold kd
          rw [← sm_mul, ← sm_mul, ← sm_add]
          refine sm_cg fun i _ => ?_
          by_cases e : 0 < c i
          · rw [if_pos e]; omega
          · rw [if_neg e]; omega
        have hU : U * sm (fun i => c i * 1000 - num) n + num * kd c n * U = sm c n * 1000 * U := by rw [Nat.mul_comm (num * kd c n) U, ← Nat.mul_add, hl, Nat.mul_comm 1000, Nat.mul_comm U]
        have hx : sm (fun i => (c i * 1000 - num) * U + num * kd c n * p i) n = U * sm (fun i => c i * 1000 - num) n + num * kd c n * sm p n := by
          rw [sm_cg (g := fun i => U * (c i * 1000 - num) + num * kd c n * p i) (fun i _ => by rw [Nat.mul_comm (c i * 1000 - num)]), sm_add, sm_mul, sm_mul]
        refine fin (sm c n * 1000) (fun i => (c i * 1000 - num) * U + num * kd c n * p i) (by omega) (fun i hi => by rw [hq i hi]; unfold bl; rw [if_neg w0, if_neg w1, if_neg w2]) ?_ ?_
        · rw [hx]
          have h1 := Nat.mul_le_mul_left (num * kd c n) p2
          omega
        · rw [hx]
          have h1 := Nat.mul_le_mul_left (num * kd c n) p3
          rw [Nat.mul_add] at h1
          have h2 := Nat.mul_le_mul_right d m1
          rw [Nat.mul_comm 1000] at h2
          omega
-- a pick: with g i = (if u i then p i else 0); word r is taken where sm g r <= drawn < sm g (r + 1)
theorem pk_pos {u : Nat → Bool} {p : Nat → Nat} {drawn r : Nat} (h1 : sm (fun i => if u i then p i else 0) r ≤ drawn) (h2 : drawn < sm (fun i => if u i then p i else 0) (r + 1)) : u r = true ∧ 0 < p r := by
  rw [sm_s] at h2
  by_cases e : u r = true
  · rw [if_pos e] at h2; exact ⟨e, by omega⟩
  · rw [if_neg e] at h2; omega
/-- what is drawn lies below the sum, if that is above nothing -/
theorem drawn_lt {luck all : Nat} (hl : luck < 10000) (ha : 0 < all) : luck * all / 10000 < all := by
  have h1 : luck * all ≤ 9999 * all := Nat.mul_le_mul_right _ (by omega)
  omega
