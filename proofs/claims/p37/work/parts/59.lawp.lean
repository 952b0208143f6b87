/-! what the law asks of the numbers -/
theorem lp_sum {p : Nat → Nat} {V : Nat} : sm (fun r => p (fw p V r)) (V + 1) = sm p (V + 1) :=
  rk_sum fun r hr => by
    have h := fw_ok (p := p) (V := V) (r := r) (by omega)
    exact ⟨by omega, h.2⟩
theorem lp_fall {p : Nat → Nat} {V r : Nat} (hr : r + 1 ≤ V) : p (fw p V (r + 1)) ≤ p (fw p V r) := by
  have h1 := fw_ok (p := p) (V := V) (r := r) (by omega)
  have h2 := fw_ok (p := p) (V := V) (r := r + 1) hr
  exact rk_fall (a := fw p V r) (b := fw p V (r + 1)) (n := V + 1) (by omega) (by omega) (by rw [h1.2, h2.2]; omega)
theorem lp_Ch {V N way num : Nat} {S : List Nat} {T : Nat → List (Nat × Nat)} (hnum : 1 ≤ num ∧ num ≤ 1000) (hN : 1 ≤ N) (z : Int) : sm (chz V N way num S T z) (V + 1) ≤ 1000000 ∧ 1000000 ≤ sm (chz V N way num S T z) (V + 1) + (N + 1) * (V + 1) := chs_Ch hnum hN
/-- how far the sum may fall short -/
theorem lp_d {V N : Nat} (hV : V ≤ 5) (hN : 1 ≤ N ∧ N ≤ 4) : ∃ d : Nat, 8 * (N : Int) * ((V : Int) + 2) * ((V : Int) + 2) = (d : Int) ∧ d ≤ 1568 ∧ (N + 1) * (V + 1) ≤ d := by
  refine ⟨8 * N * (V + 2) * (V + 2), by simp [Int.natCast_mul, Int.natCast_add], ?_, ?_⟩
  · calc 8 * N * (V + 2) * (V + 2) ≤ 8 * 4 * 7 * 7 := Nat.mul_le_mul (Nat.mul_le_mul (Nat.mul_le_mul_left 8 hN.2) (by omega)) (by omega)
      _ = 1568 := by decide
  · calc (N + 1) * (V + 1) ≤ (8 * N) * (V + 2) := Nat.mul_le_mul (by omega) (by omega)
      _ = (8 * N) * (V + 2) * 1 := (Nat.mul_one _).symm
      _ ≤ 8 * N * (V + 2) * (V + 2) := Nat.mul_le_mul_left _ (by omega)
theorem adT_full {V : Nat} {S : List Nat} {T : Nat → List (Nat × Nat)} {c N i : Nat} : adT V S T c N 0 i = if i < N then rsA (T i) c (kys V S (i + 1) (S.length + 1)) else T i := by
  unfold adT
  by_cases h : i < N
  · rw [if_pos h, if_pos h]
  · rw [if_neg h, if_neg h]
    split <;> rfl
theorem lwT_full {V : Nat} {S : List Nat} {T : Nat → List (Nat × Nat)} {c N i : Nat} : lwT V S T c N 0 i = if i < N then lwA (T i) c (kys V S (i + 1) (S.length + 1)) else T i := by
  unfold lwT
  by_cases h : i < N
  · rw [if_pos h, if_pos h]
  · rw [if_neg h, if_neg h]
    split <;> rfl
theorem oc_mem {k : Nat} : ∀ {ks : List Nat}, k ∈ ks → 1 ≤ oc k ks
  | [], h => absurd h List.not_mem_nil
  | z :: ks, h => by
    rw [oc_cons]
    rcases List.mem_cons.mp h with e | e
    · rw [if_pos e.symm]; omega
    · have := oc_mem e; omega
theorem TV.B {V m : Nat} {t : List (Nat × Nat)} (h : TV V m t) (k : Nat) : gt t k ≤ 4 * m := gt_le fun b hb => (h.2.2.2 b hb).2.2.2
/-- learned and unlearned it is as it was -/
theorem lp_back {V m N : Nat} {S : List Nat} {T T1 T2 : Nat → List (Nat × Nat)} {u : US} (hT : TA V m u T) (hm : m ≤ 700) (hS : S.length ≤ 6) (h1 : ∀ i, i < 4 → T1 i = adT V S T 1 N 0 i) (h2 : ∀ i, i < 4 → T2 i = lwT V S T1 1 N 0 i) : ∀ i, i < 4 → T2 i = T i := by
  intro i hi
  have hv := (hT i (by omega)).2
  rw [h2 i hi, lwT_full, h1 i hi, adT_full]
  by_cases h : i < N
  · rw [if_pos h, if_pos h]
    exact rs_lw (B := 4 * m) (by omega) hv.1 hv.2.1 hv.B (by rw [kys_len]; omega)
  · rw [if_neg h, if_neg h]
theorem lp_can {V m N : Nat} {S : List Nat} {T T1 : Nat → List (Nat × Nat)} {u : US} (hT : TA V m u T) (hm : m ≤ 700) (hS : S.length ≤ 6) (hN : N ≤ 4) (h1 : ∀ i, i < 4 → T1 i = adT V S T 1 N 0 i) : ∀ n, 1 ≤ n → n ≤ N → ∀ p : Nat, p ≤ S.length → oc (ky V S (p : Int) n) (kys V S n (S.length + 1)) ≤ gt (T1 (n - 1)) (ky V S (p : Int) n) := by
  intro n hn1 hn2 p _
  have hv := (hT (n - 1) (by omega)).2
  rw [h1 (n - 1) (by omega), adT_full, if_pos (by omega), show n - 1 + 1 = n by omega]
  obtain ⟨-, -, a3, -⟩ := rsA_all (t := 1) (B := 4 * m) (by omega) (kys V S n (S.length + 1)) hv.1 hv.2.1 hv.B (by rw [kys_len]; omega)
  rw [a3]
  omega
theorem lp_some {V m N : Nat} {S : List Nat} {T T1 : Nat → List (Nat × Nat)} {u : US} (hT : TA V m u T) (hm : m ≤ 700) (hS : S.length ≤ 6) (hN : 1 ≤ N) (h1 : ∀ i, i < 4 → T1 i = adT V S T 1 N 0 i) : 1 ≤ sm (fun i => (T1 i).length) N := by
  refine Nat.le_trans ?_ (sm_one (f := fun i => (T1 i).length) 0 hN)
  have hv := (hT 0 (by omega)).2
  show 1 ≤ (T1 0).length
  rw [h1 0 (by omega), adT_full, if_pos (by omega)]
  obtain ⟨-, -, a3, -⟩ := rsA_all (t := 1) (B := 4 * m) (by omega) (kys V S (0 + 1) (S.length + 1)) hv.1 hv.2.1 hv.B (by rw [kys_len]; omega)
  have hk := a3 (ky V S ((0 : Nat) : Int) (0 + 1))
  have ho : 1 ≤ oc (ky V S ((0 : Nat) : Int) (0 + 1)) (kys V S (0 + 1) (S.length + 1)) := oc_mem (List.mem_map.mpr ⟨0, List.mem_range.mpr (by omega), rfl⟩)
  rcases Nat.eq_zero_or_pos (rsA (T 0) 1 (kys V S (0 + 1) (S.length + 1))).length with e | e
  · rw [List.eq_nil_of_length_eq_zero e] at hk
    have : gt [] (ky V S ((0 : Nat) : Int) (0 + 1)) = 0 := rfl
    omega
  · exact e
theorem lp_adT {V N c : Nat} {S : List Nat} {A B : Nat → List (Nat × Nat)} (h : ∀ i, i < 4 → A i = B i) : ∀ i, i < 4 → adT V S A c N 0 i = adT V S B c N 0 i := fun i hi => by
  rw [adT_full, adT_full, h i hi]
theorem lp_one {V m : Nat} {t : List (Nat × Nat)} (h : TV V m t) : ∀ b ∈ t, (b.2 < 1 ∧ (0 : Nat) = 1) ∨ (1 ≤ b.2 ∧ (0 : Nat) = 0) := fun b hb => Or.inr ⟨h.2.1 b hb, rfl⟩
theorem lp_most {V m : Nat} {t : List (Nat × Nat)} (h : TV V m t) (hm : m ≤ 200) : ∀ b ∈ t, (b.2 < 1000 ∧ (1 : Nat) = 1) ∨ (1000 ≤ b.2 ∧ (1 : Nat) = 0) := fun b hb => Or.inl ⟨by have := (h.2.2.2 b hb).2.2.2; omega, rfl⟩
theorem lp_rf (c V : Nat) : rfS [] c V = 0 := by
  have : ∀ n, sm (fun w => gt [] (c * 14 + w + 1)) n = 0 := fun n => by
    induction n with
    | zero => rfl
    | succ n ih => rw [sm_s, ih]; rfl
  exact this _
