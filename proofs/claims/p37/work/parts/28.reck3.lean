/-- the first place below n where P holds, else n -/
def fst9 (P : Nat → Prop) [DecidablePred P] : Nat → Nat
  | 0 => 0
  | n + 1 => if fst9 P n < n then fst9 P n else if P n then n else n + 1
theorem fst9_no {P : Nat → Prop} [DecidablePred P] : ∀ {n : Nat}, (∀ x, x < n → ¬ P x) → fst9 P n = n
  | 0, _ => rfl
  | n + 1, h => by
    unfold fst9
    rw [fst9_no (fun x hx => h x (by omega)), if_neg (by omega), if_neg (h n (by omega))]
theorem fst9_at {P : Nat → Prop} [DecidablePred P] : ∀ {n j : Nat}, j < n → P j → (∀ x, x < j → ¬ P x) → fst9 P n = j
  | 0, j, hj, _, _ => absurd hj (Nat.not_lt_zero j)
  | n + 1, j, hj, hp, h => by
    unfold fst9
    rcases Nat.lt_or_ge j n with q | q
    · rw [fst9_at q hp h, if_pos q]
    · have e : j = n := by omega
      subst e
      rw [fst9_no h, if_neg (by omega), if_pos hp]
/-- the word with a rank -/
def fw (p : Nat → Nat) (V r : Nat) : Nat := fst9 (fun w => rk p (V + 1) w = r) V
theorem fw_ok {p : Nat → Nat} {V r : Nat} (hr : r ≤ V) : fw p V r ≤ V ∧ rk p (V + 1) (fw p V r) = r := by
  obtain ⟨w, hw, e⟩ := rk_ex (c := p) (n := V + 1) (r := r) (by omega)
  have only : ∀ x, x < V + 1 → rk p (V + 1) x = r → x = w := fun x hx hq => rk_inj hx hw (hq.trans e.symm)
  unfold fw
  rcases Nat.lt_or_ge w V with q | q
  · rw [fst9_at q e (fun x hx hq => by have := only x (by omega) hq; omega)]
    exact ⟨by omega, e⟩
  · have e2 : w = V := by omega
    subst e2
    rw [fst9_no (fun x hx hq => by have := only x (by omega) hq; omega)]
    exact ⟨Nat.le_refl _, e⟩
theorem shl_1 {j : Nat} (h : j < 16) : (iI 1 : Int32) <<< (iI (j : Int) &&& 31) = iI ((2 ^ j : Nat) : Int) := by
  rcases (by omega : j = 0 ∨ j = 1 ∨ j = 2 ∨ j = 3 ∨ j = 4 ∨ j = 5 ∨ j = 6 ∨ j = 7 ∨ j = 8 ∨ j = 9 ∨ j = 10 ∨ j = 11 ∨ j = 12 ∨ j = 13 ∨ j = 14 ∨ j = 15) with rfl | rfl | rfl | rfl | rfl | rfl | rfl | rfl | rfl | rfl | rfl | rfl | rfl | rfl | rfl | rfl <;> decide +kernel
theorem or_0 (x : Int32) : iI 0 ||| x = x := by
  show (0 : Int32) ||| x = x
  exact Int32.zero_or
/-- the bits of a set of all, of one -/
theorem bit_all {V w : Nat} (hV : V ≤ 12) (hw : w ≤ V) : (iI ((2 ^ (V + 1) - 1 : Nat) : Int) >>> (iI (w : Int) &&& 31)) &&& iI 1 = iI 1 := by
  have key : ∀ V : Nat, V < 13 → ∀ w : Nat, w < V + 1 → (iI ((2 ^ (V + 1) - 1 : Nat) : Int) >>> (iI (w : Int) &&& 31)) &&& iI 1 = iI 1 := by decide +kernel
  exact key V (by omega) w (by omega)
theorem bit_one {w0 w : Nat} (h0 : w0 < 13) (hw : w < 13) : (iI ((2 ^ w0 : Nat) : Int) >>> (iI (w : Int) &&& 31)) &&& iI 1 = iI (if w = w0 then 1 else 0) := by
  have key : ∀ w0 : Nat, w0 < 13 → ∀ w : Nat, w < 13 → (iI ((2 ^ w0 : Nat) : Int) >>> (iI (w : Int) &&& 31)) &&& iI 1 = iI (if w = w0 then 1 else 0) := by decide +kernel
  exact key w0 h0 w hw
theorem shr_any (x y : Int32) : ∃ z : Int, x >>> (y &&& 31) = iI z := ⟨(x >>> (y &&& 31)).toInt, (Int32.ofInt_toInt _).symm⟩
/-- the sum from the top down to j -/
theorem sm_top {f : Nat → Nat} {n : Nat} : ∀ j : Nat, j ≤ n → sm f n = sm f j + sm (fun i => f (j + i)) (n - j) := by
  intro j hj
  induction n with
  | zero =>
    have : j = 0 := by omega
    subst this; rfl
  | succ n ih =>
    rcases Nat.lt_or_ge n j with q | q
    · have : j = n + 1 := by omega
      subst this
      rw [Nat.sub_self]; rfl
    · rw [sm_s, ih q, show n + 1 - j = (n - j) + 1 by omega, sm_s, show j + (n - j) = n by omega]
      omega
