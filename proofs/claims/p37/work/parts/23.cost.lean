/-! pure layer 7 (DRAFT, never compiled yet): costs -/
/-- the halvings: as long as they are few and p isn't above the next half -/
def hv (p : Nat) : Nat → Nat → Nat
  | 0, h => h
  | f + 1, h => if h < 19 ∧ p ≤ 1000000 / 2 ^ (h + 1) then hv p f (h + 1) else h
def co (p : Nat) : Nat :=
  if p = 0 then 32768 else if 1000000 ≤ p then 0 else
  1024 * hv p 19 0 + 1024 * (1000000 / 2 ^ hv p 19 0 - p) / (1000000 / 2 ^ hv p 19 0 - 1000000 / 2 ^ (hv p 19 0 + 1))
theorem hv_le (p : Nat) : ∀ f h : Nat, h ≤ 19 → hv p f h ≤ 19
  | 0, _, hh => hh
  | f + 1, h, hh => by
    unfold hv
    split
    · exact hv_le p f (h + 1) (by omega)
    · exact hh
/-- where the halving ends p is at most the whole and above the half, if few halvings were enough -/
theorem hv_up (p : Nat) : ∀ f h : Nat, p ≤ 1000000 / 2 ^ h → p ≤ 1000000 / 2 ^ hv p f h
  | 0, _, q => q
  | f + 1, h, q => by
    unfold hv
    split
    · rename_i r; exact hv_up p f (h + 1) r.2
    · exact q
theorem co_near {p : Nat} (h : 998432 ≤ p) (h2 : p ≤ 1000000) : co p ≤ 1024 := by
  unfold co
  rw [if_neg (by omega)]
  by_cases e : 1000000 ≤ p
  · rw [if_pos e]; exact Nat.zero_le _
  · rw [if_neg e]
    have h0 : hv p 19 0 = 0 := by
      unfold hv
      rw [if_neg (fun q => by have := q.2; omega)]
    rw [h0]
    show 1024 * 0 + 1024 * (1000000 - p) / (1000000 - 500000) ≤ 1024
    omega
