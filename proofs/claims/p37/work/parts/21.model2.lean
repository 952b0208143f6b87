/-! the eight tallies: 0 .. 3 counted, 4 .. 7 varied -/
def tS : List Nat := [12, 13, 14, 15, 16, 17, 18, 19]
def tG : List Nat := [31, 32, 34, 35, 37, 38, 40, 41, 43, 44, 46, 47, 49, 50, 52, 53]
/-- a tally that is in order, with V words, behind m raises by at most 4 -/
def TV (V m : Nat) (t : List (Nat × Nat)) : Prop := So t ∧ Po t ∧ t.length ≤ m ∧ ∀ b ∈ t, b.1 < 38416 ∧ 1 ≤ b.1 % 14 ∧ b.1 % 14 ≤ V + 1 ∧ b.2 ≤ 4 * m
def TA (V m : Nat) (u : US) (T : Nat → List (Nat × Nat)) : Prop := ∀ i, i < 8 → TR u i (T i) ∧ TV V m (T i)
theorem TV.O {V m : Nat} {t : List (Nat × Nat)} (h : TV V m t) (hm : m ≤ 800) : TO t := ⟨h.1, h.2.1, by have := h.2.2.1; omega, fun b hb => by have := h.2.2.2 b hb; omega⟩
theorem TV.nil (V m : Nat) : TV V m [] := ⟨trivial, fun b hb => absurd hb List.not_mem_nil, Nat.zero_le _, fun b hb => absurd hb List.not_mem_nil⟩
theorem TV.mono {V m m' : Nat} {t : List (Nat × Nat)} (h : TV V m t) (hm : m ≤ m') : TV V m' t := ⟨h.1, h.2.1, Nat.le_trans h.2.2.1 hm, fun b hb => by have := h.2.2.2 b hb; omega⟩
theorem gt_le {t : List (Nat × Nat)} {k B : Nat} (h : ∀ b ∈ t, b.2 ≤ B) : gt t k ≤ B := by
  rcases Nat.lt_or_ge 0 (gt t k) with q | q
  · obtain ⟨b, hb, -, e⟩ := gt_has q
    rw [← e]; exact h b hb
  · omega
theorem TV.rs {V m k c : Nat} {t : List (Nat × Nat)} (h : TV V m t) (hk : k < 38416) (hd : 1 ≤ k % 14 ∧ k % 14 ≤ V + 1) (hc : 0 < c ∧ c ≤ 4) : TV V (m + 1) (rs t k c) := by
  have hg : gt t k ≤ 4 * m := gt_le fun b hb => (h.2.2.2 b hb).2.2.2
  refine ⟨rs_So h.1 h.2.1, rs_Po h.2.1 hc.1, Nat.le_trans rs_len (by have := h.2.2.1; omega), fun b hb => ?_⟩
  rcases rs_mem hb with e | e | e
  · subst e
    refine ⟨hk, hd.1, hd.2, ?_⟩
    show min _ _ ≤ _
    omega
  · subst e
    refine ⟨hk, hd.1, hd.2, ?_⟩
    show c ≤ _
    omega
  · have := h.2.2.2 b e
    omega
theorem TV.lw {V m k c : Nat} {t : List (Nat × Nat)} (h : TV V m t) : TV V m (lw t k c) := by
  have hg : gt t k ≤ 4 * m := gt_le fun b hb => (h.2.2.2 b hb).2.2.2
  refine ⟨lw_So h.1, lw_Po h.2.1, Nat.le_trans lw_len h.2.2.1, fun b hb => ?_⟩
  rcases lw_mem hb with ⟨e, q⟩ | e
  · obtain ⟨b', h1, h2, h3⟩ := gt_has (l := t) (k := k) (by omega)
    have := h.2.2.2 b' h1
    subst e
    rw [h2] at this
    refine ⟨this.1, this.2.1, this.2.2.1, ?_⟩
    show gt t k - c ≤ _
    omega
  · exact h.2.2.2 b e
theorem TV.del {V m k : Nat} {t : List (Nat × Nat)} (h : TV V m t) : TV V m (del t k) := by
  refine ⟨del_So h.1, fun b hb => h.2.1 b (del_mem hb), ?_, fun b hb => h.2.2.2 b (del_mem hb)⟩
  by_cases q : ∃ b ∈ t, b.1 = k
  · have := del_len q
    have := h.2.2.1
    omega
  · rw [del_none fun b hb e => q ⟨b, hb, e⟩]
    exact h.2.2.1
theorem Fr.t {i : Nat} (hi : i < 8) {u u' : US} (h : Fr [12 + i] [31 + 3 * i, 32 + 3 * i] u u') : Fr tS tG u u' := by
  refine h.mono (fun k hk => ?_) (fun k hk => ?_)
  · simp only [tS, List.mem_cons, List.not_mem_nil, or_false] at hk ⊢
    omega
  · simp only [tG, List.mem_cons, List.not_mem_nil, or_false] at hk ⊢
    omega
theorem TR.fr {i j : Nat} {u u' : US} {t : List (Nat × Nat)} (h : TR u j t) (hij : j ≠ i) (hF : Fr [12 + i] [31 + 3 * i, 32 + 3 * i] u u') : TR u' j t := by
  refine ⟨by rw [hF.1 (12 + j) (by simp; omega)]; exact h.1, fun q b hb => ?_⟩
  rw [hF.2 (31 + 3 * j) (by simp; omega), hF.2 (32 + 3 * j) (by simp; omega)]
  exact h.2 q b hb
theorem TR.of {j : Nat} (hj : j < 8) {u u' : US} {t : List (Nat × Nat)} {ls gs : List Nat} (h : TR u j t) (hF : Fr ls gs u u') (h1 : ∀ k, k ∈ tS → k ∉ ls) (h2 : ∀ k, k ∈ tG → k ∉ gs) : TR u' j t := by
  have e1 : 12 + j ∈ tS := by simp only [tS, List.mem_cons, List.not_mem_nil, or_false]; omega
  have e2 : 31 + 3 * j ∈ tG := by simp only [tG, List.mem_cons, List.not_mem_nil, or_false]; omega
  have e3 : 32 + 3 * j ∈ tG := by simp only [tG, List.mem_cons, List.not_mem_nil, or_false]; omega
  refine ⟨by rw [hF.1 _ (h1 _ e1)]; exact h.1, fun q b hb => ?_⟩
  rw [hF.2 _ (h2 _ e2), hF.2 _ (h2 _ e3)]
  exact h.2 q b hb
theorem TA.of {V m : Nat} {u u' : US} {T : Nat → List (Nat × Nat)} {ls gs : List Nat} (h : TA V m u T) (hF : Fr ls gs u u') (h1 : ∀ k, k ∈ tS → k ∉ ls) (h2 : ∀ k, k ∈ tG → k ∉ gs) : TA V m u' T := fun i hi => ⟨(h i hi).1.of hi hF h1 h2, (h i hi).2⟩
def upT (T : Nat → List (Nat × Nat)) (i : Nat) (t : List (Nat × Nat)) : Nat → List (Nat × Nat) := fun j => if j = i then t else T j
theorem TA.set {V m m' i : Nat} {u u' : US} {T : Nat → List (Nat × Nat)} {t : List (Nat × Nat)} (h : TA V m u T) (hF : Fr [12 + i] [31 + 3 * i, 32 + 3 * i] u u') (hT : TR u' i t) (hV : TV V m' t) (hm : m ≤ m') : TA V m' u' (upT T i t) := by
  intro j hj
  unfold upT
  by_cases e : j = i
  · rw [if_pos e]; subst e; exact ⟨hT, hV⟩
  · rw [if_neg e]
    exact ⟨(h j hj).1.fr e hF, (h j hj).2.mono hm⟩
theorem TA.mono {V m m' : Nat} {u : US} {T : Nat → List (Nat × Nat)} (h : TA V m u T) (hm : m ≤ m') : TA V m' u T := fun i hi => ⟨(h i hi).1, (h i hi).2.mono hm⟩
theorem upT_at (T : Nat → List (Nat × Nat)) (i : Nat) (t : List (Nat × Nat)) : upT T i t i = t := if_pos rfl
theorem upT_ne (T : Nat → List (Nat × Nat)) {i j : Nat} (t : List (Nat × Nat)) (h : j ≠ i) : upT T i t j = T j := if_neg h
theorem So.idx {t : List (Nat × Nat)} {j : Nat} {b : Nat × Nat} (hs : So t) (hb : t[j]? = some b) : bw t b.1 = j := by
  have h1 := bw_at (k := b.1) hs hb
  have h2 := hs.there (List.mem_of_getElem? hb)
  rcases Nat.lt_trichotomy (bw t b.1) j with q | q | q
  · obtain ⟨hj, e⟩ := List.getElem?_eq_some_iff.mp hb
    obtain ⟨hj2, e2⟩ := List.getElem?_eq_some_iff.mp h2
    have := So_lt hs q hj
    rw [e, e2] at this
    omega
  · exact q
  · omega
/-- the powers of 14 -/
def p14 (n : Nat) : Nat := 14 ^ n
theorem pw_p14 {n : Nat} (h : n < 5) : pw n = (p14 n : Int) := by
  rcases (by omega : n = 0 ∨ n = 1 ∨ n = 2 ∨ n = 3 ∨ n = 4) with rfl | rfl | rfl | rfl | rfl <;> rfl
theorem p14_cs {n : Nat} (h : n < 5) : (n = 0 ∧ p14 n = 1) ∨ (n = 1 ∧ p14 n = 14) ∨ (n = 2 ∧ p14 n = 196) ∨ (n = 3 ∧ p14 n = 2744) ∨ (n = 4 ∧ p14 n = 38416) := by
  rcases (by omega : n = 0 ∨ n = 1 ∨ n = 2 ∨ n = 3 ∨ n = 4) with rfl | rfl | rfl | rfl | rfl <;> simp [p14]
theorem vk_ok {k n V : Nat} (hn : 1 ≤ n ∧ n < 5) (hk : k < 38416) (hd : 1 ≤ k % 14 ∧ k % 14 ≤ V + 1) : k % p14 n < 38416 ∧ 1 ≤ k % p14 n % 14 ∧ k % p14 n % 14 ≤ V + 1 := by
  have h0 : k % p14 n % 14 = k % 14 := by
    rcases p14_cs hn.2 with ⟨q, e⟩ | ⟨-, e⟩ | ⟨-, e⟩ | ⟨-, e⟩ | ⟨-, e⟩ <;> first | (exfalso; omega) | (rw [e]; omega)
  rw [h0]
  have := Nat.mod_le k (p14 n)
  omega
