theorem Fr.up {ls gs ls' gs' : List Nat} {u v : US} (h : Fr ls gs u v) (h1 : ∀ k, k ∈ ls → k ∈ ls') (h2 : ∀ k, k ∈ gs → k ∈ gs') : Fr ls' gs' u v := h.mono (fun k hk hm => hk (h1 k hm)) (fun k hk hm => hk (h2 k hm))
theorem TA_nil {V : Nat} {u : US} (h : ∀ i, i < 8 → u.1 (12 + i) = 0) : TA V 0 u (fun _ => []) := fun i hi => ⟨⟨h i hi, fun j b hb => by simp at hb⟩, TV.nil V 0⟩
theorem tl_cg {way N n : Nat} {A B : Nat → List (Nat × Nat)} (hw : way ≠ 4) (h : ∀ i, i < 4 → A i = B i) (hn : 1 ≤ n ∧ n ≤ 4) : tl way N (fun n => A (n - 1)) (fun n => A (n + 3)) n = tl way N (fun n => B (n - 1)) (fun n => B (n + 3)) n := by
  unfold tl
  rw [if_neg (fun q => hw q.1), if_neg (fun q => hw q.1)]
  exact h (n - 1) (by omega)
theorem rcF_cg {way num V N c lo : Nat} {A B : Nat → List (Nat × Nat)} (hw : way ≠ 4) (h : ∀ i, i < 4 → A i = B i) (hlo : 1 ≤ lo) : ∀ m : Nat, lo + m ≤ 5 → rcF way num V N (fun n => A (n - 1)) (fun n => A (n + 3)) c lo m = rcF way num V N (fun n => B (n - 1)) (fun n => B (n + 3)) c lo m
  | 0, _ => rfl
  | m + 1, hm => by
    show rf way num V (tl way N _ _ (lo + m)) _ (rcF way num V N _ _ c lo m) = rf way num V (tl way N _ _ (lo + m)) _ (rcF way num V N _ _ c lo m)
    rw [rcF_cg hw h hlo m (by omega), tl_cg hw h (by omega)]
/-- where the way isn't the fourth, only the counted tallies tell -/
theorem chz_cg {V N way num : Nat} {S : List Nat} {A B : Nat → List (Nat × Nat)} (hw : way ≠ 4) (hN : 1 ≤ N ∧ N ≤ 4) (h : ∀ i, i < 4 → A i = B i) (z : Int) : chz V N way num S A z = chz V N way num S B z := by
  unfold chz chs
  split
  · exact rcF_cg hw h hN.1 1 (by omega)
  · exact rcF_cg hw h (Nat.le_refl 1) N (by omega)
theorem scr_cg {V N way num : Nat} {S : List Nat} {A B : Nat → List (Nat × Nat)} (hw : way ≠ 4) (hN : 1 ≤ N ∧ N ≤ 4) (h : ∀ i, i < 4 → A i = B i) : scr V N way num S A = scr V N way num S B := by
  unfold scr
  refine sm_cg fun i _ => ?_
  unfold cz
  rw [chz_cg hw hN h]
theorem fl_cg {f g : Nat → Int → Int} : ∀ {n : Nat}, (∀ j d, j < n → f j d = g j d) → ∀ d : Int, fl f n d = fl g n d
  | 0, _, _ => rfl
  | n + 1, h, d => by
    show f n (fl f n d) = g n (fl g n d)
    rw [fl_cg (fun j d hj => h j d (by omega)) d, h n _ (by omega)]
theorem dgs_cg {V N way num : Nat} {S : List Nat} {A B : Nat → List (Nat × Nat)} (hw : way ≠ 4) (hN : 1 ≤ N ∧ N ≤ 4) (h : ∀ i, i < 4 → A i = B i) (lk dr en : Nat) : dgs V N way num S A lk dr en = dgs V N way num S B lk dr en := by
  have e2 : dg2 V N S A = dg2 V N S B := fl_cg (fun j d hj => by rw [h j (by omega)]) _
  have e3 : dg3 V N S A = dg3 V N S B := by
    unfold dg3
    rw [e2]
    refine fl_cg (fun j d hj => ?_) _
    unfold ofc
    rw [h j (by omega)]
  unfold dgs
  rw [chz_cg hw hN h, e3, scr_cg hw hN h]
