/-- the keys of order n at the first j places -/
def kys (V : Nat) (S : List Nat) (n j : Nat) : List Nat := (List.range j).map (fun p : Nat => ky V S (p : Int) n)
theorem kys_s (V : Nat) (S : List Nat) (n j : Nat) : kys V S n (j + 1) = kys V S n j ++ [ky V S (j : Int) n] := by
  unfold kys
  rw [List.range_succ, List.map_append]
  rfl
theorem kys_len (V : Nat) (S : List Nat) (n j : Nat) : (kys V S n j).length = j := by
  unfold kys
  rw [List.length_map, List.length_range]
theorem rsA_s (t : Nat) : ∀ (ks : List Nat) (l : List (Nat × Nat)) (k : Nat), rsA l t (ks ++ [k]) = rs (rsA l t ks) k t
  | [], _, _ => rfl
  | z :: ks, l, k => rsA_s t ks (rs l z t) k
theorem lwA_s (t : Nat) : ∀ (ks : List Nat) (l : List (Nat × Nat)) (k : Nat), lwA l t (ks ++ [k]) = lw (lwA l t ks) k t
  | [], _, _ => rfl
  | z :: ks, l, k => lwA_s t ks (lw l z t) k
theorem oc_s (k : Nat) : ∀ (ks : List Nat) (z : Nat), oc k (ks ++ [z]) = oc k ks + (if z = k then 1 else 0)
  | [], z => by show (if z = k then 1 else 0) + 0 = 0 + _; omega
  | y :: ks, z => by
    show (if y = k then 1 else 0) + oc k (ks ++ [z]) = (if y = k then 1 else 0) + oc k ks + _
    rw [oc_s k ks z]
    omega
/-- the counted tallies behind an adding of the sentence, orders done and places done of the next -/
def adT (V : Nat) (S : List Nat) (T : Nat → List (Nat × Nat)) (c o p i : Nat) : List (Nat × Nat) := if i < o then rsA (T i) c (kys V S (i + 1) (S.length + 1)) else if i = o then rsA (T i) c (kys V S (i + 1) p) else T i
def lwT (V : Nat) (S : List Nat) (T : Nat → List (Nat × Nat)) (c o p i : Nat) : List (Nat × Nat) := if i < o then lwA (T i) c (kys V S (i + 1) (S.length + 1)) else if i = o then lwA (T i) c (kys V S (i + 1) p) else T i
theorem adT_0 (V : Nat) (S : List Nat) (T : Nat → List (Nat × Nat)) (c i : Nat) : adT V S T c 0 0 i = T i := by
  unfold adT
  rw [if_neg (Nat.not_lt_zero i)]
  split <;> rfl
theorem lwT_0 (V : Nat) (S : List Nat) (T : Nat → List (Nat × Nat)) (c i : Nat) : lwT V S T c 0 0 i = T i := by
  unfold lwT
  rw [if_neg (Nat.not_lt_zero i)]
  split <;> rfl
theorem adT_next (V : Nat) (S : List Nat) (T : Nat → List (Nat × Nat)) (c o i : Nat) : adT V S T c o (S.length + 1) i = adT V S T c (o + 1) 0 i := by
  unfold adT
  by_cases h1 : i < o
  · rw [if_pos h1, if_pos (by omega)]
  · rw [if_neg h1]
    by_cases h2 : i = o
    · rw [if_pos h2, if_pos (by omega)]
    · rw [if_neg h2, if_neg (by omega)]
      split <;> rfl
theorem lwT_next (V : Nat) (S : List Nat) (T : Nat → List (Nat × Nat)) (c o i : Nat) : lwT V S T c o (S.length + 1) i = lwT V S T c (o + 1) 0 i := by
  unfold lwT
  by_cases h1 : i < o
  · rw [if_pos h1, if_pos (by omega)]
  · rw [if_neg h1]
    by_cases h2 : i = o
    · rw [if_pos h2, if_pos (by omega)]
    · rw [if_neg h2, if_neg (by omega)]
      split <;> rfl
theorem adT_step (V : Nat) (S : List Nat) (T : Nat → List (Nat × Nat)) (c o p i : Nat) : (if i + 1 = o + 1 then rs (adT V S T c o p i) (ky V S (p : Int) (o + 1)) c else adT V S T c o p i) = adT V S T c o (p + 1) i := by
  unfold adT
  by_cases h1 : i < o
  · rw [if_neg (by omega), if_pos h1, if_pos h1]
  · by_cases h2 : i = o
    · subst h2
      rw [if_pos rfl, if_neg h1, if_pos rfl, if_neg h1, if_pos rfl, kys_s, rsA_s]
    · rw [if_neg (by omega), if_neg h1, if_neg h2, if_neg h1, if_neg h2]
theorem lwT_step (V : Nat) (S : List Nat) (T : Nat → List (Nat × Nat)) (c o p i : Nat) : (if i + 1 = o + 1 then lw (lwT V S T c o p i) (ky V S (p : Int) (o + 1)) c else lwT V S T c o p i) = lwT V S T c o (p + 1) i := by
  unfold lwT
  by_cases h1 : i < o
  · rw [if_neg (by omega), if_pos h1, if_pos h1]
  · by_cases h2 : i = o
    · subst h2
      rw [if_pos rfl, if_neg h1, if_pos rfl, if_neg h1, if_pos rfl, kys_s, lwA_s]
    · rw [if_neg (by omega), if_neg h1, if_neg h2, if_neg h1, if_neg h2]
theorem AB.setT {V N way num m m' : Nat} {S : List Nat} {T T' : Nat → List (Nat × Nat)} {u u' : US} (h : AB V N way num m S T u) (hF : Fr tS tG u u') (hT : TA V m' u' T') (hm : m' ≤ 700) : AB V N way num m' S T' u' := by
  obtain ⟨⟨b1, b2, b3, b4, b5, b6⟩, a2, a3, a4, a5, ⟨a6, a7⟩, a8⟩ := h
  refine ⟨⟨b1, b2, b3, b4, hm, b6⟩, (hF.1 4 (by simp [tS])).trans a2, (hF.1 5 (by simp [tS])).trans a3, (hF.1 6 (by simp [tS])).trans a4, (hF.1 7 (by simp [tS])).trans a5, ⟨(hF.1 0 (by simp [tS])).trans a6, fun j w hw => ?_⟩, hT⟩
  rw [hF.2 6 (by simp [tG])]
  exact a7 j w hw
/-- the last of a sorted row is taken out -/
theorem del_last : ∀ {l : List (Nat × Nat)} {b : Nat × Nat}, (∀ z ∈ l, z.1 < b.1) → del (l ++ [b]) b.1 = l
  | [], b, _ => by show (if b.1 = b.1 then [] else _) = _; rw [if_pos rfl]
  | a :: l, b, h => by
    show (if a.1 = b.1 then _ else a :: del (l ++ [b]) b.1) = _
    have := h a List.mem_cons_self
    rw [if_neg (by omega), del_last fun z hz => h z (List.mem_cons_of_mem _ hz)]
theorem del_take {l : List (Nat × Nat)} {j : Nat} {b : Nat × Nat} (hs : So l) (hb : l[j]? = some b) : del (l.take (j + 1)) b.1 = l.take j := by
  rw [List.take_succ, hb]
  refine del_last fun z hz => ?_
  obtain ⟨i, hi⟩ := List.getElem?_of_mem hz
  rw [List.getElem?_take] at hi
  split at hi
  · rename_i q
    obtain ⟨h1, e1⟩ := List.getElem?_eq_some_iff.mp hi
    obtain ⟨h2, e2⟩ := List.getElem?_eq_some_iff.mp hb
    have := So_lt hs q h2
    rw [e1, e2] at this
    exact this
  · cases hi
theorem ab_app {V N way num m : Nat} {S : List Nat} {T : Nat → List (Nat × Nat)} {u : US} (hA : AB V N way num m S T u) {w : Nat} (hw : w < V) (hl : S.length < 12) : AB V N way num m (S ++ [w]) T (uS (uA u 6 (upI (u.2 6) ((S.length : Int)).toNat (w : Int))) 0 ((S.length : Int) + 1)) := by
  obtain ⟨⟨hV, hN, hway, hnum, hm, hSl, hSV⟩, eV, eN, ew, en, ⟨eS, hS⟩, hT⟩ := hA
  refine ⟨⟨hV, hN, hway, hnum, hm, by rw [List.length_append]; exact hl, fun z hz => ?_⟩, eV, eN, ew, en, ⟨by rw [uS_at, List.length_append]; rfl, fun j z hz => ?_⟩, ?_⟩
  · rcases List.mem_append.mp hz with h | h
    · exact hSV z h
    · rw [List.mem_singleton.mp h]; exact hw
  · rw [uS_2, uA_at]
    unfold upI
    rw [Int.toNat_natCast]
    by_cases e : j = S.length
    · subst e
      rw [List.getElem?_append_right (Nat.le_refl _), Nat.sub_self] at hz
      cases hz
      exact if_pos rfl
    · rw [if_neg e]
      have hj : j < S.length := by
        have := (List.getElem?_eq_some_iff.mp hz).1
        rw [List.length_append] at this
        have : ([w] : List Nat).length = 1 := rfl
        omega
      rw [List.getElem?_append_left hj] at hz
      exact hS j z hz
  · exact hT.of ((Fr.A (ls := [0]) (gs := [6]) (by simp)).tr (Fr.S (by simp))) (by simp [tS]) (by simp [tG])
