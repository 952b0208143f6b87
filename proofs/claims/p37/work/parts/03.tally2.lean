/-! pure layer 4: what putting in, counting anew and taking out do to a tally -/
theorem ins_at : ∀ (l : List (Nat × Nat)) (k c j : Nat), (ins l k c)[j]? = if j < bw l k then l[j]? else if j = bw l k then some (k, c) else l[j - 1]?
  | [], k, c, j => by
    unfold ins bw
    rw [if_neg (Nat.not_lt_zero j)]
    by_cases e : j = 0
    · subst e; rfl
    · rw [if_neg e, List.getElem?_eq_none (by simp only [List.length_cons, List.length_nil]; omega)]
      rfl
  | a :: l, k, c, j => by
    unfold ins bw
    by_cases q : a.1 < k
    · rw [if_pos q, if_pos q]
      cases j with
      | zero => rw [if_pos (Nat.succ_pos _)]; rfl
      | succ j =>
        rw [List.getElem?_cons_succ, ins_at l k c j]
        by_cases r : j < bw l k
        · rw [if_pos r, if_pos (by omega), List.getElem?_cons_succ]
        · rw [if_neg r, if_neg (show ¬ j + 1 < bw l k + 1 by omega)]
          by_cases r2 : j = bw l k
          · rw [if_pos r2, if_pos (show j + 1 = bw l k + 1 by omega)]
          · rw [if_neg r2, if_neg (show ¬ j + 1 = bw l k + 1 by omega)]
            cases j with
            | zero => omega
            | succ j => rfl
    · rw [if_neg q, if_neg q, if_neg (Nat.not_lt_zero j)]
      cases j with
      | zero => rfl
      | succ j => rfl
theorem ins_len : ∀ (l : List (Nat × Nat)) (k c : Nat), (ins l k c).length = l.length + 1
  | [], _, _ => rfl
  | a :: l, k, c => by
    unfold ins
    split
    · rw [List.length_cons, ins_len l k c]; rfl
    · rfl
theorem ins_mem : ∀ {l : List (Nat × Nat)} {k c : Nat} {b : Nat × Nat}, b ∈ ins l k c → b = (k, c) ∨ b ∈ l
  | [], _, _, b, h => Or.inl (List.mem_singleton.mp h)
  | a :: l, k, c, b, h => by
    unfold ins at h
    split at h
    · rcases List.mem_cons.mp h with e | e
      · exact Or.inr (e ▸ List.mem_cons_self)
      · rcases ins_mem e with r | r
        · exact Or.inl r
        · exact Or.inr (List.mem_cons_of_mem _ r)
    · exact List.mem_cons.mp h
theorem ins_So : ∀ {l : List (Nat × Nat)} {k c : Nat}, So l → (∀ b ∈ l, b.1 ≠ k) → So (ins l k c)
  | [], _, _, _, _ => ⟨fun _ h => absurd h List.not_mem_nil, trivial⟩
  | a :: l, k, c, h, n => by
    have na := n a List.mem_cons_self
    unfold ins
    split
    · rename_i q
      refine ⟨fun b hb => ?_, ins_So h.2 fun b hb => n b (List.mem_cons_of_mem _ hb)⟩
      rcases ins_mem hb with r | r
      · rw [r]; exact q
      · exact h.1 b r
    · rename_i q
      refine ⟨fun b hb => ?_, h⟩
      rcases List.mem_cons.mp hb with r | r
      · rw [r]; show k < a.1; omega
      · have := h.1 b r; show k < b.1; omega
theorem ins_gt : ∀ {l : List (Nat × Nat)} {k c : Nat}, (∀ b ∈ l, b.1 ≠ k) → ∀ z, gt (ins l k c) z = if k = z then c else gt l z
  | [], k, c, _, z => rfl
  | a :: l, k, c, n, z => by
    have na := n a List.mem_cons_self
    unfold ins
    split
    · unfold gt
      rw [ins_gt (fun b hb => n b (List.mem_cons_of_mem _ hb)) z]
      by_cases e : a.1 = z
      · rw [if_pos e, if_pos e, if_neg (by omega)]
      · rw [if_neg e, if_neg e]
    · rfl
theorem cst_at : ∀ {l : List (Nat × Nat)} {k c d : Nat}, So l → l[bw l k]? = some (k, d) → ∀ j, (cst l k c)[j]? = if j = bw l k then some (k, c) else l[j]?
  | [], k, c, d, _, h, j => by cases h
  | a :: l, k, c, d, hs, h, j => by
    unfold bw at h
    unfold cst bw
    by_cases q : a.1 < k
    · rw [if_pos q] at h
      rw [if_pos q, if_neg (by omega)]
      cases j with
      | zero => rw [if_neg (by omega)]; rfl
      | succ j =>
        rw [List.getElem?_cons_succ, List.getElem?_cons_succ, cst_at (c := c) hs.2 h j]
        by_cases r : j = bw l k
        · rw [if_pos r, if_pos (by omega)]
        · rw [if_neg r, if_neg (by omega)]
    · rw [if_neg q] at h
      have e : a = (k, d) := Option.some.inj h
      rw [if_neg q, if_pos (by rw [e])]
      cases j with
      | zero => rfl
      | succ j => rfl
theorem cst_len : ∀ (l : List (Nat × Nat)) (k c : Nat), (cst l k c).length = l.length
  | [], _, _ => rfl
  | a :: l, k, c => by
    unfold cst
    split
    · rfl
    · rw [List.length_cons, cst_len l k c]; rfl
theorem cst_mem : ∀ {l : List (Nat × Nat)} {k c : Nat} {b : Nat × Nat}, b ∈ cst l k c → b = (k, c) ∨ b ∈ l
  | [], _, _, b, h => absurd h List.not_mem_nil
  | a :: l, k, c, b, h => by
    unfold cst at h
    split at h
    · rcases List.mem_cons.mp h with e | e
      · exact Or.inl e
      · exact Or.inr (List.mem_cons_of_mem _ e)
    · rcases List.mem_cons.mp h with e | e
      · exact Or.inr (e ▸ List.mem_cons_self)
      · rcases cst_mem e with r | r
        · exact Or.inl r
        · exact Or.inr (List.mem_cons_of_mem _ r)
theorem cst_key : ∀ {l : List (Nat × Nat)} {k c : Nat} {b : Nat × Nat}, b ∈ cst l k c → ∃ b' ∈ l, b'.1 = b.1
  | [], _, _, b, h => absurd h List.not_mem_nil
  | a :: l, k, c, b, h => by
    unfold cst at h
    split at h
    · rename_i q
      rcases List.mem_cons.mp h with e | e
      · exact ⟨a, List.mem_cons_self, by rw [e]; exact q⟩
      · exact ⟨b, List.mem_cons_of_mem _ e, rfl⟩
    · rcases List.mem_cons.mp h with e | e
      · exact ⟨a, List.mem_cons_self, by rw [e]⟩
      · obtain ⟨b', h1, h2⟩ := cst_key e
        exact ⟨b', List.mem_cons_of_mem _ h1, h2⟩
theorem cst_So : ∀ {l : List (Nat × Nat)} {k c : Nat}, So l → So (cst l k c)
  | [], _, _, _ => trivial
  | a :: l, k, c, h => by
    unfold cst
    split
    · rename_i q
      exact ⟨fun b hb => by have := h.1 b hb; show k < b.1; omega, h.2⟩
    · refine ⟨fun b hb => ?_, cst_So h.2⟩
      obtain ⟨b', h1, h2⟩ := cst_key hb
      have := h.1 b' h1
      omega
theorem cst_gt : ∀ {l : List (Nat × Nat)} {k c : Nat}, (∃ b ∈ l, b.1 = k) → ∀ z, gt (cst l k c) z = if k = z then c else gt l z
  | [], k, c, h, z => by obtain ⟨b, hb, _⟩ := h; cases hb
  | a :: l, k, c, h, z => by
    unfold cst
    by_cases q : a.1 = k
    · rw [if_pos q]
      unfold gt
      by_cases e : k = z
      · rw [if_pos e, if_pos e]
      · rw [if_neg e, if_neg e, if_neg (by omega)]
    · rw [if_neg q]
      unfold gt
      have h' : ∃ b ∈ l, b.1 = k := by
        obtain ⟨b, hb, e⟩ := h
        rcases List.mem_cons.mp hb with r | r
        · rw [r] at e; exact absurd e q
        · exact ⟨b, r, e⟩
      rw [cst_gt h' z]
      by_cases e : a.1 = z
      · rw [if_pos e, if_pos e, if_neg (by omega)]
      · rw [if_neg e, if_neg e]
theorem del_at : ∀ {l : List (Nat × Nat)} {k d : Nat}, So l → l[bw l k]? = some (k, d) → ∀ j, (del l k)[j]? = if j < bw l k then l[j]? else l[j + 1]?
  | [], k, d, _, h, j => by cases h
  | a :: l, k, d, hs, h, j => by
    unfold bw at h
    unfold del bw
    by_cases q : a.1 < k
    · rw [if_pos q] at h
      rw [if_pos q, if_neg (by omega)]
      cases j with
      | zero => rw [if_pos (by omega)]; rfl
      | succ j =>
        rw [List.getElem?_cons_succ, del_at hs.2 h j]
        by_cases r : j < bw l k
        · rw [if_pos r, if_pos (by omega), List.getElem?_cons_succ]
        · rw [if_neg r, if_neg (by omega), List.getElem?_cons_succ]
    · rw [if_neg q] at h
      have e : a = (k, d) := Option.some.inj h
      rw [if_neg q, if_pos (by rw [e]), if_neg (Nat.not_lt_zero j), List.getElem?_cons_succ]
theorem del_mem : ∀ {l : List (Nat × Nat)} {k : Nat} {b : Nat × Nat}, b ∈ del l k → b ∈ l
  | [], _, _, h => absurd h List.not_mem_nil
  | a :: l, k, b, h => by
    unfold del at h
    split at h
    · exact List.mem_cons_of_mem _ h
    · rcases List.mem_cons.mp h with e | e
      · exact e ▸ List.mem_cons_self
      · exact List.mem_cons_of_mem _ (del_mem e)
theorem del_So : ∀ {l : List (Nat × Nat)} {k : Nat}, So l → So (del l k)
  | [], _, _ => trivial
  | a :: l, k, h => by
    unfold del
    split
    · exact h.2
    · exact ⟨fun b hb => h.1 b (del_mem hb), del_So h.2⟩
theorem del_len : ∀ {l : List (Nat × Nat)} {k : Nat}, (∃ b ∈ l, b.1 = k) → (del l k).length + 1 = l.length
  | [], _, h => by obtain ⟨b, hb, _⟩ := h; cases hb
  | a :: l, k, h => by
    unfold del
    by_cases q : a.1 = k
    · rw [if_pos q]; rfl
    · rw [if_neg q, List.length_cons, List.length_cons]
      obtain ⟨b, hb, e⟩ := h
      rcases List.mem_cons.mp hb with r | r
      · rw [r] at e; exact absurd e q
      · rw [del_len ⟨b, r, e⟩]
theorem del_gt : ∀ {l : List (Nat × Nat)} {k : Nat}, So l → ∀ z, gt (del l k) z = if k = z then 0 else gt l z
  | [], k, _, z => by unfold del gt; split <;> rfl
  | a :: l, k, h, z => by
    unfold del
    by_cases q : a.1 = k
    · rw [if_pos q]
      by_cases e : k = z
      · rw [if_pos e]
        exact gt_out fun b hb => by have := h.1 b hb; omega
      · rw [if_neg e]
        show gt l z = if a.1 = z then a.2 else gt l z
        rw [if_neg (by omega)]
    · rw [if_neg q]
      unfold gt
      rw [del_gt h.2 z]
      by_cases e : a.1 = z
      · rw [if_pos e, if_pos e, if_neg (by omega)]
      · rw [if_neg e, if_neg e]
theorem So_lt : ∀ {l : List (Nat × Nat)} {i j : Nat} (_ : So l) (hij : i < j) (hj : j < l.length), (l[i]'(Nat.lt_trans hij hj)).1 < (l[j]).1
  | [], _, _, _, _, hj => absurd hj (Nat.not_lt_zero _)
  | a :: l, i, j, h, hij, hj => by
    cases j with
    | zero => omega
    | succ j =>
      cases i with
      | zero => exact h.1 _ (List.getElem_mem _)
      | succ i => exact So_lt h.2 (Nat.lt_of_succ_lt_succ hij) (Nat.lt_of_succ_lt_succ hj)
/-- k stands where it would -/
theorem So.there {l : List (Nat × Nat)} (h : So l) {b : Nat × Nat} (hb : b ∈ l) : l[bw l b.1]? = some b := by
  obtain ⟨i, hi, e⟩ := List.mem_iff_getElem.mp hb
  have h1 : i = bw l b.1 := by
    rcases Nat.lt_trichotomy i (bw l b.1) with q | q | q
    · have := bw_lt (l := l) hi q; rw [e] at this; omega
    · exact q
    · have h3 : bw l b.1 < l.length := by omega
      have h2 := bw_ge (l := l) (k := b.1) h h3 (Nat.le_refl _)
      have h4 : (l[bw l b.1]).1 < (l[i]).1 := So_lt h q hi
      rw [e] at h4
      omega
  rw [← h1, List.getElem?_eq_getElem hi, e]
