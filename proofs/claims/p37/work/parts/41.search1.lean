/-- the cost of a word (or the END) in a state -/
def CcF (V N way num : Nat) (T : Nat → List (Nat × Nat)) (c : Nat) : Nat → Nat → Nat → Nat := fun ch s w => co (chs way num V N (fun n => T (n - 1)) (fun n => T (n + 3)) N (kyAt V N c ch s) w)
def c0 (V N : Nat) (S : List Nat) : Nat := ky V S ((S.length : Int) - 1) (N - 1)
section SCORE
variable {V N way num m : Nat} {S : List Nat} {T : Nat → List (Nat × Nat)}
theorem cz_pre {ws : List Nat} {j : Nat} (h : j < S.length) : cz V N way num (S ++ ws) T j = cz V N way num S T j := by
  unfold cz chz
  rw [dg_pre (by omega), ky_pre _ (by omega)]
theorem len_app (ws : List Nat) : (S ++ ws).length = S.length + ws.length := List.length_append
/-- the key behind the first i of the words ws -/
def kb (V N : Nat) (S ws : List Nat) (i : Nat) : Nat := ky V (S ++ ws) (((S.length + i : Nat) : Int) - 1) (N - 1)
theorem scr_split (ws : List Nat) : scr V N way num (S ++ ws) T = sm (cz V N way num S T) S.length + sm (fun i => co (chs way num V N (fun n => T (n - 1)) (fun n => T (n + 3)) N (kb V N S ws i) ((dgn V ws[i]?) - 1))) (ws.length + 1) := by
  unfold scr
  rw [len_app]
  have h1 : ∀ k : Nat, sm (cz V N way num (S ++ ws) T) (S.length + k) = sm (cz V N way num S T) S.length + sm (fun i => co (chs way num V N (fun n => T (n - 1)) (fun n => T (n + 3)) N (kb V N S ws i) ((dgn V ws[i]?) - 1))) k := by
    intro k
    induction k with
    | zero => exact sm_cg fun i hi => cz_pre hi
    | succ k ih =>
      rw [show S.length + (k + 1) = (S.length + k) + 1 by omega, sm_s, ih, sm_s]
      have e : cz V N way num (S ++ ws) T (S.length + k) = co (chs way num V N (fun n => T (n - 1)) (fun n => T (n + 3)) N (kb V N S ws k) ((dgn V ws[k]?) - 1)) := by
        unfold cz chz kb
        rw [dg_nth]
      rw [e]
      omega
  exact h1 (ws.length + 1)
theorem kb_0 (hV : 1 ≤ V ∧ V ≤ 12) (hN : 1 ≤ N ∧ N ≤ 4) (hS : ∀ w ∈ S, w < V) (ws : List Nat) : kb V N S ws 0 = kyAt V N (c0 V N S) (min 0 (N - 1)) 0 := by
  unfold kb kyAt c0
  rw [Nat.zero_min, ky_pre _ (by omega), Nat.sub_zero]
  show _ = ky V S _ (N - 1) % p14 (N - 1) * p14 0 + 0
  unfold p14
  rw [ky_cut hV.2 hS _ _ _ (Nat.le_refl _), Nat.pow_zero, Nat.mul_one, Nat.add_zero, Nat.add_zero]
theorem kb_1 (hV : 1 ≤ V ∧ V ≤ 12) (hN : 1 ≤ N ∧ N ≤ 4) (hS : ∀ w ∈ S, w < V) {w1 : Nat} (hw : w1 < V) (ws : List Nat) : kb V N S (w1 :: ws) 1 = kyAt V N (c0 V N S) (min 1 (N - 1)) (nx V N 0 0 w1) := by
  unfold kb
  rcases (by omega : N = 1 ∨ 2 ≤ N) with e | e
  · subst e
    unfold kyAt
    show 0 = _ % _ * _ + 0
    unfold p14 c0
    show 0 = ky V S _ 0 % 1 * 1 + 0
    omega
  · obtain ⟨n, rfl⟩ : ∃ n, N = n + 2 := ⟨N - 2, by omega⟩
    have e1 : min 1 (n + 2 - 1) = 1 := by omega
    have e2 : nx V (n + 2) 0 0 w1 = w1 := by
      unfold nx stN
      rw [show min (0 + 1) (n + 2 - 1) = 1 by omega, Nat.pow_one, Nat.zero_mul, Nat.zero_add, Nat.mod_eq_of_lt hw]
    rw [e1, e2]
    unfold kyAt kof kof c0
    show ky V (S ++ w1 :: ws) (((S.length + 1 : Nat) : Int) - 1 - 1) n * 14 + dg V (S ++ w1 :: ws) (((S.length + 1 : Nat) : Int) - 1) = _
    rw [show ((S.length + 1 : Nat) : Int) - 1 = ((S.length + 0 : Nat) : Int) by omega, dg_nth, ky_pre _ (by omega)]
    show _ + (w1 + 1) = _
    rw [show n + 2 - 1 - 1 = n by omega, show n + 2 - 1 = n + 1 by omega]
    unfold p14
    rw [ky_cut hV.2 hS _ _ _ (by omega), Nat.pow_one, Nat.pow_zero, Nat.pow_zero, Nat.div_one, Nat.mod_eq_of_lt hw, Nat.add_zero]
    omega
theorem kb_2 (hV : 1 ≤ V ∧ V ≤ 12) (hN : 1 ≤ N ∧ N ≤ 4) (hS : ∀ w ∈ S, w < V) {w1 w2 : Nat} (hw : w1 < V) (hw2 : w2 < V) : kb V N S [w1, w2] 2 = kyAt V N (c0 V N S) (min 2 (N - 1)) (nx V N 1 (nx V N 0 0 w1) w2) := by
  unfold kb
  have d2 : dg V (S ++ [w1, w2]) (((S.length + 2 : Nat) : Int) - 1) = w2 + 1 := by
    rw [show ((S.length + 2 : Nat) : Int) - 1 = ((S.length + 1 : Nat) : Int) by omega, dg_nth]
    rfl
  have d1 : dg V (S ++ [w1, w2]) (((S.length + 2 : Nat) : Int) - 1 - 1) = w1 + 1 := by
    rw [show ((S.length + 2 : Nat) : Int) - 1 - 1 = ((S.length + 0 : Nat) : Int) by omega, dg_nth]
    rfl
  rcases (by omega : N = 1 ∨ N = 2 ∨ 3 ≤ N) with e | e | e
  · subst e
    unfold kyAt
    show 0 = _ % _ * _ + 0
    unfold p14 c0
    show 0 = ky V S _ 0 % 1 * 1 + 0
    omega
  · subst e
    have e2 : nx V 2 1 (nx V 2 0 0 w1) w2 = w2 := by
      unfold nx stN
      show ((0 * V + w1) % V ^ 1 * V + w2) % V ^ 1 = w2
      rw [Nat.pow_one, Nat.mul_comm _ V, Nat.mul_add_mod, Nat.mod_eq_of_lt hw2]
    rw [e2]
    show 0 * 14 + dg V (S ++ [w1, w2]) (((S.length + 2 : Nat) : Int) - 1) = _
    rw [d2]
    unfold kyAt kof kof c0 p14
    show _ = ky V S _ 1 % 1 * 14 ^ 1 + (0 + (w2 / V ^ 0 % V + 1) * 14 ^ 0)
    rw [Nat.mod_one, Nat.pow_zero, Nat.div_one, Nat.mod_eq_of_lt hw2]
    omega
  · obtain ⟨n, rfl⟩ : ∃ n, N = n + 3 := ⟨N - 3, by omega⟩
    have e1 : min 2 (n + 3 - 1) = 2 := by omega
    have e2 : nx V (n + 3) 1 (nx V (n + 3) 0 0 w1) w2 = w1 * V + w2 := by
      unfold nx stN
      rw [show min (0 + 1) (n + 3 - 1) = 1 by omega, show min (1 + 1) (n + 3 - 1) = 2 by omega, Nat.pow_one, Nat.zero_mul, Nat.zero_add, Nat.mod_eq_of_lt hw, Nat.mod_eq_of_lt]
      have : (w1 + 1) * V ≤ V * V := Nat.mul_le_mul_right _ hw
      rw [Nat.pow_two]
      rw [Nat.succ_mul] at this
      omega
    rw [e1, e2]
    have q1 : (w1 * V + w2) % V = w2 := by rw [Nat.mul_comm, Nat.mul_add_mod, Nat.mod_eq_of_lt hw2]
    have q2 : (w1 * V + w2) / V % V = w1 := by
      rw [Nat.mul_comm, Nat.mul_add_div (by omega), Nat.div_eq_of_lt hw2, Nat.add_zero, Nat.mod_eq_of_lt hw]
    show (ky V (S ++ [w1, w2]) (((S.length + 2 : Nat) : Int) - 1 - 1 - 1) n * 14 + dg V (S ++ [w1, w2]) (((S.length + 2 : Nat) : Int) - 1 - 1)) * 14 + dg V (S ++ [w1, w2]) (((S.length + 2 : Nat) : Int) - 1) = _
    rw [d1, d2, ky_pre _ (by omega)]
    unfold kyAt kof kof kof c0 p14
    rw [show n + 3 - 1 - 2 = n by omega, show n + 3 - 1 = n + 2 by omega, ky_cut hV.2 hS _ _ _ (by omega), Nat.pow_zero, Nat.div_one, Nat.pow_one, q1, q2, show ((S.length + 2 : Nat) : Int) - 1 - 1 - 1 = (S.length : Int) - 1 by omega]
    show _ = _ * 196 + (0 + (w2 + 1) * 1 + (w1 + 1) * 14 ^ 1)
    omega
/-- the score behind the words ws: what stands already, and their cost -/
theorem scr_tc (hV : 1 ≤ V ∧ V ≤ 12) (hN : 1 ≤ N ∧ N ≤ 4) (hS : ∀ w ∈ S, w < V) : ∀ (ws : List Nat), ws.length ≤ 2 → (∀ w ∈ ws, w < V) → scr V N way num (S ++ ws) T = sm (cz V N way num S T) S.length + tc V N (CcF V N way num T (c0 V N S)) 0 0 ws
  | [], _, _ => by
    rw [scr_split]
    show _ + (0 + co (chs way num V N _ _ N (kb V N S [] 0) (V + 1 - 1))) = _ + CcF V N way num T (c0 V N S) (min 0 (N - 1)) 0 V
    rw [kb_0 hV hN hS]
    unfold CcF
    rw [show V + 1 - 1 = V by omega, Nat.zero_add]
  | [w1], _, hw => by
    rw [scr_split]
    show _ + (0 + co (chs way num V N _ _ N (kb V N S [w1] 0) (w1 + 1 - 1)) + co (chs way num V N _ _ N (kb V N S [w1] 1) (V + 1 - 1))) = _ + (CcF V N way num T (c0 V N S) (min 0 (N - 1)) 0 w1 + CcF V N way num T (c0 V N S) (min 1 (N - 1)) (nx V N 0 0 w1) V)
    rw [kb_0 hV hN hS, kb_1 hV hN hS (hw w1 List.mem_cons_self)]
    unfold CcF
    rw [show V + 1 - 1 = V by omega, show w1 + 1 - 1 = w1 by omega, Nat.zero_add]
  | [w1, w2], _, hw => by
    have h1 := hw w1 List.mem_cons_self
    have h2 := hw w2 (List.mem_cons_of_mem _ List.mem_cons_self)
    rw [scr_split]
    show _ + (0 + co (chs way num V N _ _ N (kb V N S [w1, w2] 0) (w1 + 1 - 1)) + co (chs way num V N _ _ N (kb V N S [w1, w2] 1) (w2 + 1 - 1)) + co (chs way num V N _ _ N (kb V N S [w1, w2] 2) (V + 1 - 1))) = _ + (CcF V N way num T (c0 V N S) (min 0 (N - 1)) 0 w1 + (CcF V N way num T (c0 V N S) (min 1 (N - 1)) (nx V N 0 0 w1) w2 + CcF V N way num T (c0 V N S) (min 2 (N - 1)) (nx V N 1 (nx V N 0 0 w1) w2) V))
    rw [kb_0 hV hN hS, kb_1 hV hN hS h1, kb_2 hV hN hS h1 h2]
    unfold CcF
    rw [show V + 1 - 1 = V by omega, show w1 + 1 - 1 = w1 by omega, show w2 + 1 - 1 = w2 by omega]
    omega
  | _ :: _ :: _ :: _, h, _ => absurd h (by simp)
end SCORE
