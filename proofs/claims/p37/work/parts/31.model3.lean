/-! the class's model: V words, the order N, way, number, m raises so far, the sentence S, the tallies T -/
def SA (u : US) (S : List Nat) : Prop := u.1 0 = (S.length : Int) ∧ ∀ (j w : Nat), S[j]? = some w → u.2 6 j = (w : Int)
def OK (V N way num m : Nat) (S : List Nat) : Prop := V ≤ 12 ∧ (1 ≤ N ∧ N ≤ 4) ∧ way ≤ 4 ∧ (1 ≤ num ∧ num ≤ 1000) ∧ m ≤ 700 ∧ S.length ≤ 12 ∧ ∀ w ∈ S, w < V
def AB (V N way num m : Nat) (S : List Nat) (T : Nat → List (Nat × Nat)) (u : US) : Prop := OK V N way num m S ∧ u.1 4 = (V : Int) ∧ u.1 5 = (N : Int) ∧ u.1 6 = (way : Int) ∧ u.1 7 = (num : Int) ∧ SA u S ∧ TA V m u T
theorem AB.of {V N way num m : Nat} {S : List Nat} {T : Nat → List (Nat × Nat)} {u u' : US} {ls gs : List Nat} (h : AB V N way num m S T u) (hF : Fr ls gs u u') (h1 : ∀ k, k ∈ tS → k ∉ ls) (h2 : ∀ k, k ∈ tG → k ∉ gs) (h3 : 0 ∉ ls ∧ 4 ∉ ls ∧ 5 ∉ ls ∧ 6 ∉ ls ∧ 7 ∉ ls) (h4 : 6 ∉ gs) : AB V N way num m S T u' := by
  obtain ⟨a1, a2, a3, a4, a5, ⟨a6, a7⟩, a8⟩ := h
  refine ⟨a1, (hF.1 4 h3.2.1).trans a2, (hF.1 5 h3.2.2.1).trans a3, (hF.1 6 h3.2.2.2.1).trans a4, (hF.1 7 h3.2.2.2.2).trans a5, ⟨(hF.1 0 h3.1).trans a6, fun j w hw => ?_⟩, a8.of hF h1 h2⟩
  rw [hF.2 6 h4]
  exact a7 j w hw
/-- a digit of a row: BEGIN 0, a word w is w + 1, the END V + 1 -/
def dg (V : Nat) (S : List Nat) (z : Int) : Nat := if z < 0 then 0 else match S[z.toNat]? with
  | some w => w + 1
  | none => V + 1
theorem dg_neg {V : Nat} {S : List Nat} {z : Int} (h : z < 0) : dg V S z = 0 := if_pos h
theorem dg_at {V : Nat} {S : List Nat} {j w : Nat} (h : S[j]? = some w) : dg V S (j : Int) = w + 1 := by
  unfold dg
  rw [if_neg (by omega), Int.toNat_natCast, h]
theorem dg_end {V : Nat} {S : List Nat} {z : Int} (h : (S.length : Int) ≤ z) : dg V S z = V + 1 := by
  unfold dg
  rw [if_neg (by omega), List.getElem?_eq_none (by omega)]
theorem dg_le {V : Nat} {S : List Nat} (hS : ∀ w ∈ S, w < V) (z : Int) : dg V S z ≤ V + 1 := by
  unfold dg
  split
  · omega
  · split
    · rename_i w hw
      have := hS w (List.mem_of_getElem? hw)
      omega
    · omega
theorem dg_pos {V : Nat} {S : List Nat} {z : Int} (h : 0 ≤ z) : 1 ≤ dg V S z := by
  unfold dg
  rw [if_neg (by omega)]
  split <;> omega
/-- the key of so many places that end with this one -/
def ky (V : Nat) (S : List Nat) (z : Int) : Nat → Nat
  | 0 => 0
  | n + 1 => ky V S (z - 1) n * 14 + dg V S z
theorem ky_lt {V : Nat} {S : List Nat} (hV : V ≤ 12) (hS : ∀ w ∈ S, w < V) : ∀ (n : Nat) (z : Int), ky V S z n < 14 ^ n
  | 0, _ => by unfold ky; omega
  | n + 1, z => by
    unfold ky
    have h1 := ky_lt hV hS n (z - 1)
    have h2 := dg_le hS z
    rw [Nat.pow_succ]
    omega
theorem ky_mod {V : Nat} {S : List Nat} (hV : V ≤ 12) (hS : ∀ w ∈ S, w < V) (n : Nat) (z : Int) : ky V S z (n + 1) % 14 = dg V S z := by
  have h2 := dg_le hS z
  unfold ky
  omega
theorem ky_4 {V : Nat} {S : List Nat} (hV : V ≤ 12) (hS : ∀ w ∈ S, w < V) {n : Nat} (hn : n ≤ 4) (z : Int) : ky V S z n < 38416 := by
  have h1 := ky_lt hV hS n z
  have h2 : 14 ^ n ≤ 14 ^ 4 := Nat.pow_le_pow_right (by omega) hn
  have h3 : (14 : Nat) ^ 4 = 38416 := by decide
  omega
/-- the chances behind the places ahead of z, the cost of what is there -/
def chz (V N way num : Nat) (S : List Nat) (T : Nat → List (Nat × Nat)) (z : Int) : Nat → Nat := chs way num V N (fun n => T (n - 1)) (fun n => T (n + 3)) N (ky V S (z - 1) (N - 1))
def cz (V N way num : Nat) (S : List Nat) (T : Nat → List (Nat × Nat)) (j : Nat) : Nat := co (chz V N way num S T (j : Int) (dg V S (j : Int) - 1))
def scr (V N way num : Nat) (S : List Nat) (T : Nat → List (Nat × Nat)) : Nat := sm (cz V N way num S T) (S.length + 1)
theorem chz_le {V N way num : Nat} {S : List Nat} {T : Nat → List (Nat × Nat)} (hnum : 1 ≤ num ∧ num ≤ 1000) (hN : 1 ≤ N) (z : Int) {w : Nat} (hw : w ≤ V) : chz V N way num S T z w ≤ 1000000 := (chs_Ch hnum hN).each w (by omega)
theorem shr_u {j : Nat} (h : j < 21) : iI 1000000 >>> (iI (j : Int) &&& 31) = iI ((1000000 / 2 ^ j : Nat) : Int) := by
  have key : ∀ j : Nat, j < 21 → iI 1000000 >>> (iI (j : Int) &&& 31) = iI ((1000000 / 2 ^ j : Nat) : Int) := by decide +kernel
  exact key j h
theorem half_lt {j : Nat} (h : j < 20) : 1000000 / 2 ^ (j + 1) < 1000000 / 2 ^ j ∧ 1000000 / 2 ^ j ≤ 1000000 := by
  have key : ∀ j : Nat, j < 20 → 1000000 / 2 ^ (j + 1) < 1000000 / 2 ^ j ∧ 1000000 / 2 ^ j ≤ 1000000 := by decide +kernel
  exact key j h
theorem hv_stop {p h : Nat} (hq : ¬ (h < 19 ∧ p ≤ 1000000 / 2 ^ (h + 1))) : ∀ f : Nat, hv p f h = h
  | 0 => rfl
  | f + 1 => by unfold hv; rw [if_neg hq]
theorem half_gap {j : Nat} (h : j < 20) : 2 * (1000000 / 2 ^ (j + 1)) ≤ 1000000 / 2 ^ j := by
  have key : ∀ j : Nat, j < 20 → 2 * (1000000 / 2 ^ (j + 1)) ≤ 1000000 / 2 ^ j := by decide +kernel
  exact key j h
theorem co_le (p : Nat) : co p ≤ 32768 := by
  unfold co
  split
  · omega
  · split
    · omega
    · rename_i h1 h2
      have hh := hv_le p 19 0 (by omega)
      obtain ⟨h, hq⟩ : ∃ h, h = hv p 19 0 := ⟨_, rfl⟩
      rw [← hq] at hh ⊢
      have hl := half_lt (j := h) (by omega)
      have hg := half_gap (j := h) (by omega)
      obtain ⟨A, hA⟩ : ∃ A, A = 1000000 / 2 ^ h := ⟨_, rfl⟩
      obtain ⟨B, hB⟩ : ∃ B, B = 1000000 / 2 ^ (h + 1) := ⟨_, rfl⟩
      rw [← hA, ← hB] at hl hg ⊢
      have h3 : 1024 * (A - p) / (A - B) ≤ 4096 := by
        refine Nat.div_le_of_le_mul ?_
        have : A - p ≤ 2 * (A - B) := by omega
        omega
      omega
theorem scr_le {V N way num : Nat} {S : List Nat} {T : Nat → List (Nat × Nat)} (n : Nat) : sm (cz V N way num S T) n ≤ n * 32768 := sm_bound n fun i _ => co_le _
