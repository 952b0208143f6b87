/-! pure layer 3: a tally as a list of keys and counts, strictly by the keys -/
def So : List (Nat × Nat) → Prop
  | [] => True
  | a :: l => (∀ b ∈ l, a.1 < b.1) ∧ So l
/-- how many keys stand below k -/
def bw : List (Nat × Nat) → Nat → Nat
  | [], _ => 0
  | a :: l, k => if a.1 < k then bw l k + 1 else 0
/-- the count of k -/
def gt : List (Nat × Nat) → Nat → Nat
  | [], _ => 0
  | a :: l, k => if a.1 = k then a.2 else gt l k
/-- k with count c, put in its place -/
def ins : List (Nat × Nat) → Nat → Nat → List (Nat × Nat)
  | [], k, c => [(k, c)]
  | a :: l, k, c => if a.1 < k then a :: ins l k c else (k, c) :: a :: l
/-- k's count is now c -/
def cst : List (Nat × Nat) → Nat → Nat → List (Nat × Nat)
  | [], _, _ => []
  | a :: l, k, c => if a.1 = k then (k, c) :: l else a :: cst l k c
/-- k is gone -/
def del : List (Nat × Nat) → Nat → List (Nat × Nat)
  | [], _ => []
  | a :: l, k => if a.1 = k then l else a :: del l k
theorem bw_le : ∀ (l : List (Nat × Nat)) (k : Nat), bw l k ≤ l.length
  | [], _ => Nat.le_refl _
  | a :: l, k => by
    unfold bw
    split
    · have := bw_le l k; simp only [List.length_cons]; omega
    · exact Nat.zero_le _
theorem gt_out : ∀ {l : List (Nat × Nat)} {k : Nat}, (∀ b ∈ l, b.1 ≠ k) → gt l k = 0
  | [], _, _ => rfl
  | a :: l, k, h => by
    unfold gt
    rw [if_neg (h a List.mem_cons_self)]
    exact gt_out fun b hb => h b (List.mem_cons_of_mem _ hb)
theorem gt_in : ∀ {l : List (Nat × Nat)}, So l → ∀ {b : Nat × Nat}, b ∈ l → gt l b.1 = b.2
  | [], _, b, hb => absurd hb List.not_mem_nil
  | a :: l, h, b, hb => by
    unfold gt
    rcases List.mem_cons.mp hb with e | e
    · subst e; rw [if_pos rfl]
    · rw [if_neg (fun q => by have := h.1 b e; omega)]
      exact gt_in h.2 e
/-- where two tallies with counts above nothing count alike, they are the same -/
theorem So.ext : ∀ {l l' : List (Nat × Nat)}, So l → So l' → (∀ b ∈ l, 0 < b.2) → (∀ b ∈ l', 0 < b.2) → (∀ k, gt l k = gt l' k) → l = l'
  | [], [], _, _, _, _, _ => rfl
  | [], b :: l', _, h', _, p', e => by
    have h1 := gt_in h' (b := b) List.mem_cons_self
    have h2 := p' b List.mem_cons_self
    rw [← e] at h1
    exact absurd h1 (by show ¬ 0 = b.2; omega)
  | a :: l, [], h, _, p, _, e => by
    have h1 := gt_in h (b := a) List.mem_cons_self
    have h2 := p a List.mem_cons_self
    rw [e] at h1
    exact absurd h1 (by show ¬ 0 = a.2; omega)
  | a :: l, b :: l', h, h', p, p', e => by
    have a1 := gt_in h (b := a) List.mem_cons_self
    have b1 := gt_in h' (b := b) List.mem_cons_self
    have a2 := p a List.mem_cons_self
    have b2 := p' b List.mem_cons_self
    have hk : a.1 = b.1 := by
      rcases Nat.lt_trichotomy a.1 b.1 with q | q | q
      · have h1 : gt (b :: l') a.1 = 0 := gt_out fun z hz => by
          rcases List.mem_cons.mp hz with r | r
          · subst r; omega
          · have := h'.1 z r; omega
        rw [e, h1] at a1; omega
      · exact q
      · have h1 : gt (a :: l) b.1 = 0 := gt_out fun z hz => by
          rcases List.mem_cons.mp hz with r | r
          · subst r; omega
          · have := h.1 z r; omega
        rw [← e, h1] at b1; omega
    have hc : a.2 = b.2 := by rw [← a1, ← b1, e, hk]
    have hab : a = b := Prod.ext hk hc
    subst hab
    congr 1
    refine So.ext h.2 h'.2 (fun z hz => p z (List.mem_cons_of_mem _ hz)) (fun z hz => p' z (List.mem_cons_of_mem _ hz)) fun k => ?_
    have := e k
    unfold gt at this
    by_cases q : a.1 = k
    · subst q
      rw [gt_out fun z hz => by have := h.1 z hz; omega, gt_out fun z hz => by have := h'.1 z hz; omega]
    · rw [if_neg q, if_neg q] at this; exact this
theorem bw_lt : ∀ {l : List (Nat × Nat)} {k i : Nat} (hi : i < l.length), i < bw l k → (l[i]).1 < k
  | [], _, _, hi, _ => absurd hi (Nat.not_lt_zero _)
  | a :: l, k, i, hi, h => by
    unfold bw at h
    split at h
    · rename_i q
      cases i with
      | zero => exact q
      | succ i => exact bw_lt (l := l) (Nat.lt_of_succ_lt_succ hi) (by omega)
    · omega
theorem bw_ge : ∀ {l : List (Nat × Nat)} {k i : Nat}, So l → (hi : i < l.length) → bw l k ≤ i → k ≤ (l[i]).1
  | [], _, _, _, hi, _ => absurd hi (Nat.not_lt_zero _)
  | a :: l, k, i, h, hi, hb => by
    unfold bw at hb
    split at hb
    · cases i with
      | zero => omega
      | succ i => exact bw_ge (l := l) h.2 (Nat.lt_of_succ_lt_succ hi) (by omega)
    · rename_i q
      cases i with
      | zero => show k ≤ a.1; omega
      | succ i =>
        have h1 := h.1 (l[i]'(Nat.lt_of_succ_lt_succ hi)) (List.getElem_mem _)
        show k ≤ (l[i]'(Nat.lt_of_succ_lt_succ hi)).1
        omega
/-- the place is told by what stands ahead of it and there -/
theorem bw_eq {l : List (Nat × Nat)} {k n : Nat} (hs : So l) (hn : n ≤ l.length) (h1 : ∀ i (hi : i < l.length), i < n → (l[i]).1 < k) (h2 : ∀ hi : n < l.length, k ≤ (l[n]).1) : n = bw l k := by
  have hb := bw_le l k
  rcases Nat.lt_trichotomy n (bw l k) with q | q | q
  · have a := h2 (by omega)
    have b := bw_lt (l := l) (k := k) (i := n) (by omega) q
    omega
  · exact q
  · have a := h1 (bw l k) (by omega) q
    have b := bw_ge (l := l) (k := k) (i := bw l k) hs (by omega) (Nat.le_refl _)
    omega
