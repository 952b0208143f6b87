/-! pure layer 5: raising and lowering a key's count -/
def rs (l : List (Nat × Nat)) (k t : Nat) : List (Nat × Nat) := if 0 < gt l k then cst l k (min 100000000 (gt l k + t)) else ins l k t
def lw (l : List (Nat × Nat)) (k t : Nat) : List (Nat × Nat) := if t < gt l k then cst l k (gt l k - t) else del l k
/-- counts above nothing -/
def Po (l : List (Nat × Nat)) : Prop := ∀ b ∈ l, 0 < b.2
theorem gt_has : ∀ {l : List (Nat × Nat)} {k : Nat}, 0 < gt l k → ∃ b ∈ l, b.1 = k ∧ b.2 = gt l k
  | [], _, h => by unfold gt at h; omega
  | a :: l, k, h => by
    unfold gt at h ⊢
    by_cases q : a.1 = k
    · rw [if_pos q]; exact ⟨a, List.mem_cons_self, q, rfl⟩
    · rw [if_neg q] at h ⊢
      obtain ⟨b, h1, h2⟩ := gt_has h
      exact ⟨b, List.mem_cons_of_mem _ h1, h2⟩
theorem gt_none {l : List (Nat × Nat)} {k : Nat} (hs : So l) (hp : Po l) (h : ¬ 0 < gt l k) : ∀ b ∈ l, b.1 ≠ k := fun b hb e => by
  have h1 := gt_in hs hb
  have h2 := hp b hb
  rw [e] at h1
  omega
theorem rs_So {l : List (Nat × Nat)} {k t : Nat} (hs : So l) (hp : Po l) : So (rs l k t) := by
  unfold rs
  split
  · exact cst_So hs
  · rename_i h; exact ins_So hs (gt_none hs hp h)
theorem rs_mem {l : List (Nat × Nat)} {k t : Nat} {b : Nat × Nat} (h : b ∈ rs l k t) : b = (k, min 100000000 (gt l k + t)) ∨ b = (k, t) ∨ b ∈ l := by
  unfold rs at h
  split at h
  · rcases cst_mem h with q | q
    · exact Or.inl q
    · exact Or.inr (Or.inr q)
  · exact Or.inr (ins_mem h)
theorem rs_Po {l : List (Nat × Nat)} {k t : Nat} (hp : Po l) (ht : 0 < t) : Po (rs l k t) := fun b hb => by
  rcases rs_mem hb with e | e | e
  · rw [e]; show 0 < min 100000000 (gt l k + t); omega
  · rw [e]; exact ht
  · exact hp b e
theorem rs_gt {l : List (Nat × Nat)} {k t : Nat} (hs : So l) (hp : Po l) (hb : gt l k + t ≤ 100000000) (z : Nat) : gt (rs l k t) z = if k = z then gt l k + t else gt l z := by
  unfold rs
  split
  · rename_i h
    obtain ⟨b, h1, h2, h3⟩ := gt_has h
    rw [cst_gt ⟨b, h1, h2⟩ z]
    rw [Nat.min_eq_right hb]
  · rename_i h
    rw [ins_gt (gt_none hs hp h) z]
    have : gt l k = 0 := by omega
    rw [this, Nat.zero_add]
theorem rs_len {l : List (Nat × Nat)} {k t : Nat} : (rs l k t).length ≤ l.length + 1 := by
  unfold rs
  split
  · rw [cst_len]; omega
  · rw [ins_len]; exact Nat.le_refl _
theorem del_none : ∀ {l : List (Nat × Nat)} {k : Nat}, (∀ b ∈ l, b.1 ≠ k) → del l k = l
  | [], _, _ => rfl
  | a :: l, k, h => by
    unfold del
    rw [if_neg (h a List.mem_cons_self), del_none fun b hb => h b (List.mem_cons_of_mem _ hb)]
theorem lw_So {l : List (Nat × Nat)} {k t : Nat} (hs : So l) : So (lw l k t) := by
  unfold lw
  split
  · exact cst_So hs
  · exact del_So hs
theorem lw_mem {l : List (Nat × Nat)} {k t : Nat} {b : Nat × Nat} (h : b ∈ lw l k t) : (b = (k, gt l k - t) ∧ t < gt l k) ∨ b ∈ l := by
  unfold lw at h
  split at h
  · rename_i q
    rcases cst_mem h with e | e
    · exact Or.inl ⟨e, q⟩
    · exact Or.inr e
  · exact Or.inr (del_mem h)
theorem lw_Po {l : List (Nat × Nat)} {k t : Nat} (hp : Po l) : Po (lw l k t) := fun b hb => by
  rcases lw_mem hb with ⟨e, q⟩ | e
  · rw [e]; show 0 < gt l k - t; omega
  · exact hp b e
theorem lw_gt {l : List (Nat × Nat)} {k t : Nat} (hs : So l) (z : Nat) : gt (lw l k t) z = if k = z then gt l k - t else gt l z := by
  unfold lw
  split
  · rename_i h
    obtain ⟨b, h1, h2, h3⟩ := gt_has (l := l) (k := k) (by omega)
    exact cst_gt ⟨b, h1, h2⟩ z
  · rename_i h
    rw [del_gt hs z]
    have : gt l k - t = 0 := by omega
    rw [this]
theorem lw_len {l : List (Nat × Nat)} {k t : Nat} : (lw l k t).length ≤ l.length := by
  unfold lw
  split
  · rw [cst_len]; exact Nat.le_refl _
  · by_cases h : ∃ b ∈ l, b.1 = k
    · have := del_len h; omega
    · rw [del_none fun b hb e => h ⟨b, hb, e⟩]; exact Nat.le_refl _
-- many at once
def rsA (l : List (Nat × Nat)) (t : Nat) : List Nat → List (Nat × Nat)
  | [] => l
  | k :: ks => rsA (rs l k t) t ks
def lwA (l : List (Nat × Nat)) (t : Nat) : List Nat → List (Nat × Nat)
  | [] => l
  | k :: ks => lwA (lw l k t) t ks
/-- how often k stands in a list of keys -/
def oc (k : Nat) : List Nat → Nat
  | [] => 0
  | z :: ks => (if z = k then 1 else 0) + oc k ks
theorem oc_cons (k z : Nat) (ks : List Nat) : oc k (z :: ks) = (if z = k then 1 else 0) + oc k ks := rfl
theorem oc_le (k : Nat) : ∀ ks : List Nat, oc k ks ≤ ks.length
  | [] => Nat.le_refl _
  | z :: ks => by
    have := oc_le k ks
    rw [oc_cons, List.length_cons]
    split <;> omega
theorem rsA_all {t B : Nat} (ht : 0 < t) : ∀ (ks : List Nat) {l : List (Nat × Nat)}, So l → Po l → (∀ k, gt l k ≤ B) → B + t * ks.length ≤ 100000000 → So (rsA l t ks) ∧ Po (rsA l t ks) ∧ (∀ k, gt (rsA l t ks) k = gt l k + t * oc k ks) ∧ (rsA l t ks).length ≤ l.length + ks.length
  | [], l, hs, hp, _, _ => ⟨hs, hp, fun k => by show gt l k = gt l k + t * 0; omega, Nat.le_refl _⟩
  | z :: ks, l, hs, hp, hB, hb => by
    rw [List.length_cons, Nat.mul_succ] at hb
    have hz : gt l z + t ≤ 100000000 := by have := hB z; omega
    have hg := rs_gt hs hp hz
    obtain ⟨a1, a2, a3, a4⟩ := rsA_all (t := t) (B := B + t) ht ks (rs_So (k := z) (t := t) hs hp) (rs_Po (k := z) hp ht) (fun k => by
      rw [hg k]
      have := hB k
      have := hB z
      split <;> omega) (by omega)
    refine ⟨a1, a2, fun k => ?_, ?_⟩
    · show gt (rsA (rs l z t) t ks) k = _
      rw [a3 k, hg k]
      rw [oc_cons, Nat.mul_add]
      by_cases e : z = k
      · subst e; rw [if_pos rfl, if_pos rfl]; omega
      · rw [if_neg e, if_neg e]; omega
    · show (rsA (rs l z t) t ks).length ≤ _
      have := rs_len (l := l) (k := z) (t := t)
      rw [List.length_cons]
      omega
theorem lwA_all {t : Nat} : ∀ (ks : List Nat) {l : List (Nat × Nat)}, So l → Po l → So (lwA l t ks) ∧ Po (lwA l t ks) ∧ (∀ k, gt (lwA l t ks) k = gt l k - t * oc k ks) ∧ (lwA l t ks).length ≤ l.length
  | [], l, hs, hp => ⟨hs, hp, fun k => by show gt l k = gt l k - t * 0; omega, Nat.le_refl _⟩
  | z :: ks, l, hs, hp => by
    have hg := lw_gt (k := z) (t := t) hs
    obtain ⟨a1, a2, a3, a4⟩ := lwA_all (t := t) ks (lw_So (k := z) (t := t) hs) (lw_Po (k := z) (t := t) hp)
    refine ⟨a1, a2, fun k => ?_, ?_⟩
    · show gt (lwA (lw l z t) t ks) k = _
      rw [a3 k, hg k]
      rw [oc_cons, Nat.mul_add]
      by_cases e : z = k
      · subst e; rw [if_pos rfl, if_pos rfl]; omega
      · rw [if_neg e, if_neg e]; omega
    · show (lwA (lw l z t) t ks).length ≤ _
      have := lw_len (l := l) (k := z) (t := t)
      omega
/-- raised and lowered by the same keys: as it was -/
theorem rs_lw {t B : Nat} {l : List (Nat × Nat)} {ks : List Nat} (ht : 0 < t) (hs : So l) (hp : Po l) (hB : ∀ k, gt l k ≤ B) (hb : B + t * ks.length ≤ 100000000) : lwA (rsA l t ks) t ks = l := by
  obtain ⟨a1, a2, a3, _⟩ := rsA_all ht ks hs hp hB hb
  obtain ⟨b1, b2, b3, _⟩ := lwA_all (t := t) ks a1 a2
  exact So.ext b1 hs b2 hp fun k => by rw [b3 k, a3 k]; omega
