/-! a tally's cells and its list -/
def TR (u : US) (i : Nat) (t : List (Nat × Nat)) : Prop := u.1 (12 + i) = (t.length : Int) ∧ ∀ (j : Nat) (b : Nat × Nat), t[j]? = some b → u.2 (31 + 3 * i) j = (b.1 : Int) ∧ u.2 (32 + 3 * i) j = (b.2 : Int)
/-- the same, but for the place e -/
def TRx (u : US) (i : Nat) (t : List (Nat × Nat)) (e : Nat) : Prop := u.1 (12 + i) = (t.length : Int) ∧ ∀ (j : Nat) (b : Nat × Nat), t[j]? = some b → j ≠ e → u.2 (31 + 3 * i) j = (b.1 : Int) ∧ u.2 (32 + 3 * i) j = (b.2 : Int)
/-- a tally in order: sorted, counts above nothing, small -/
def TO (t : List (Nat × Nat)) : Prop := So t ∧ Po t ∧ t.length ≤ 852 ∧ ∀ b ∈ t, b.1 < 1000000 ∧ b.2 ≤ 1000000
theorem TR.x {u : US} {i : Nat} {t : List (Nat × Nat)} (h : TR u i t) (e : Nat) : TRx u i t e := ⟨h.1, fun j b hb _ => h.2 j b hb⟩
theorem TO.at {t : List (Nat × Nat)} (h : TO t) {j : Nat} {b : Nat × Nat} (hb : t[j]? = some b) : b.1 < 1000000 ∧ b.2 ≤ 1000000 ∧ 0 < b.2 := ⟨(h.2.2.2 b (List.mem_of_getElem? hb)).1, (h.2.2.2 b (List.mem_of_getElem? hb)).2, h.2.1 b (List.mem_of_getElem? hb)⟩
theorem bw_at {t : List (Nat × Nat)} {k j : Nat} {b : Nat × Nat} (hs : So t) (hb : t[j]? = some b) : b.1 < k ↔ j < bw t k := by
  obtain ⟨hj, e⟩ := List.getElem?_eq_some_iff.mp hb
  subst e
  constructor
  · intro h
    rcases Nat.lt_or_ge j (bw t k) with q | q
    · exact q
    · have := bw_ge hs hj q
      omega
  · intro h
    exact bw_lt hj h
/-- what stands at its place -/
theorem gt_at {t : List (Nat × Nat)} {k : Nat} (hs : So t) (hp : Po t) : (0 < gt t k → t[bw t k]? = some (k, gt t k)) ∧ (¬ 0 < gt t k → ∀ b, t[bw t k]? = some b → b.1 ≠ k) := by
  constructor
  · intro h
    obtain ⟨b, hb, h1, h2⟩ := gt_has h
    have := hs.there hb
    rw [h1] at this
    rw [this, ← h2]
    exact congrArg some (Prod.ext h1 rfl)
  · intro h b hb e
    exact gt_none hs hp h b (List.mem_of_getElem? hb) e
theorem getN {t : List (Nat × Nat)} {j : Nat} (h : j < t.length) : ∃ b, t[j]? = some b := ⟨t[j], List.getElem?_eq_getElem h⟩
theorem TR_del {u u' : US} {i k d : Nat} {t : List (Nat × Nat)} {s1 s2 d1 d2 n1 n2 : Nat} (hs : So t) (hT : TRx u i t (bw t k)) (hb : t[bw t k]? = some (k, d)) (h1 : u'.1 (12 + i) = (t.length : Int) - 1)
    (h2 : u'.2 (31 + 3 * i) = cpI (u.2 (31 + 3 * i)) s1 d1 n1) (h3 : u'.2 (32 + 3 * i) = cpI (u.2 (32 + 3 * i)) s2 d2 n2) (e1 : s1 = bw t k + 1) (e2 : d1 = bw t k) (e3 : n1 = t.length - bw t k - 1) (e4 : s2 = bw t k + 1) (e5 : d2 = bw t k) (e6 : n2 = t.length - bw t k - 1) : TR u' i (del t k) := by
  subst e1 e2 e3 e4 e5 e6
  have hl : (del t k).length + 1 = t.length := del_len ⟨_, List.mem_of_getElem? hb, rfl⟩
  refine ⟨by rw [h1]; omega, fun j b hj => ?_⟩
  have hj2 : j < (del t k).length := (List.getElem?_eq_some_iff.mp hj).1
  rw [del_at hs hb] at hj
  rw [h2, h3]
  unfold cpI
  by_cases q : j < bw t k
  · rw [if_pos q] at hj
    rw [if_neg (by omega), if_neg (by omega)]
    exact hT.2 j b hj (by omega)
  · rw [if_neg q] at hj
    rw [if_pos (by omega), if_pos (by omega)]
    rw [show bw t k + 1 + (j - bw t k) = j + 1 by omega]
    exact hT.2 (j + 1) b hj (by omega)
theorem TR_ins {u u' : US} {i k c : Nat} {t : List (Nat × Nat)} {s1 s2 d1 d2 n1 n2 p1 p2 : Nat} {v1 v2 : Int} (hT : TR u i t) (h1 : u'.1 (12 + i) = (t.length : Int) + 1)
    (h2 : u'.2 (31 + 3 * i) = upI (cpI (u.2 (31 + 3 * i)) s1 d1 n1) p1 v1) (h3 : u'.2 (32 + 3 * i) = upI (cpI (u.2 (32 + 3 * i)) s2 d2 n2) p2 v2) (e1 : s1 = bw t k) (e2 : d1 = bw t k + 1) (e3 : n1 = t.length - bw t k) (e4 : s2 = bw t k) (e5 : d2 = bw t k + 1) (e6 : n2 = t.length - bw t k) (e7 : p1 = bw t k) (e8 : p2 = bw t k) (e9 : v1 = (k : Int)) (e10 : v2 = (c : Int)) : TR u' i (ins t k c) := by
  subst e1 e2 e3 e4 e5 e6 e7 e8 e9 e10
  have hw := bw_le t k
  refine ⟨by rw [h1, ins_len]; rfl, fun j b hj => ?_⟩
  have hj2 : j < (ins t k c).length := (List.getElem?_eq_some_iff.mp hj).1
  rw [ins_len] at hj2
  rw [ins_at] at hj
  rw [h2, h3]
  unfold upI cpI
  by_cases q : j < bw t k
  · rw [if_pos q] at hj
    rw [if_neg (by omega), if_neg (by omega), if_neg (by omega), if_neg (by omega)]
    exact hT.2 j b hj
  · rw [if_neg q] at hj
    by_cases q2 : j = bw t k
    · rw [if_pos q2] at hj
      cases hj
      rw [if_pos q2, if_pos q2]
      exact ⟨rfl, rfl⟩
    · rw [if_neg q2] at hj
      rw [if_neg q2, if_neg q2, if_pos (by omega), if_pos (by omega)]
      rw [show bw t k + (j - (bw t k + 1)) = j - 1 by omega]
      exact hT.2 (j - 1) b hj
theorem TR_cst {u u' : US} {i k c d p : Nat} {t : List (Nat × Nat)} {v : Int} (hs : So t) (hT : TR u i t) (hb : t[bw t k]? = some (k, d)) (h1 : u'.1 (12 + i) = u.1 (12 + i)) (h2 : u'.2 (31 + 3 * i) = u.2 (31 + 3 * i)) (h3 : u'.2 (32 + 3 * i) = upI (u.2 (32 + 3 * i)) p v) (e1 : p = bw t k) (e2 : v = (c : Int)) : TR u' i (cst t k c) := by
  subst e1 e2
  refine ⟨by rw [h1, hT.1, cst_len], fun j b hj => ?_⟩
  rw [cst_at hs hb] at hj
  rw [h2, h3]
  unfold upI
  by_cases q : j = bw t k
  · rw [if_pos q] at hj
    cases hj
    rw [if_pos q]
    exact ⟨by rw [q]; exact (hT.2 _ _ hb).1, rfl⟩
  · rw [if_neg q] at hj
    rw [if_neg q]
    exact hT.2 j b hj
theorem TRx_up {u u' : US} {i k p : Nat} {t : List (Nat × Nat)} {v : Int} (hT : TR u i t) (h1 : u'.1 (12 + i) = u.1 (12 + i)) (h2 : u'.2 (31 + 3 * i) = u.2 (31 + 3 * i)) (h3 : u'.2 (32 + 3 * i) = upI (u.2 (32 + 3 * i)) p v) (e1 : p = bw t k) : TRx u' i t (bw t k) := by
  subst e1
  refine ⟨by rw [h1, hT.1], fun j b hj hne => ?_⟩
  rw [h2, h3]
  unfold upI
  rw [if_neg hne]
  exact hT.2 j b hj
