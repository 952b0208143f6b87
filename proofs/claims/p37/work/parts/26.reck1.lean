theorem uS_2 (u : US) (k : Nat) (v : Int) : (uS u k v).2 = u.2 := rfl
theorem uA_1 (u : US) (k : Nat) (g : Nat → Int) : (uA u k g).1 = u.1 := rfl
theorem gather_fin {V m c e : Nat} {t : List (Nat × Nat)} (h : TV V m t) (hV : V ≤ 12) (he : ∀ j (hj : j < t.length), e ≤ j → c * 14 + 14 ≤ (t[j]).1) {S K : Int} {f : Nat → Int} (h1 : ∀ j, j < 13 → f j = (ow t (c * 14) e j : Int)) (h2 : S = (sm (ow t (c * 14) e) 13 : Int)) (h3 : K = (kd (ow t (c * 14) e) 13 : Int)) :
    (∀ w, w ≤ V → f w = (gt t (c * 14 + w + 1) : Int)) ∧ S = (rfS t c V : Int) ∧ K = (kd (fun w => gt t (c * 14 + w + 1)) (V + 1) : Int) := by
  have e1 : ∀ w, w < 13 → ow t (c * 14) e w = gt t (c * 14 + w + 1) := fun w hw => ow_end hw he
  obtain ⟨s1, s2⟩ := gt_sum13 (c := c) h hV
  refine ⟨fun w hw => by rw [h1 w (by omega), e1 w (by omega)], ?_, ?_⟩
  · rw [h2, sm_cg e1, s1]
    rfl
  · rw [h3]
    unfold kd at s2 ⊢
    rw [sm_cg (g := fun i => if 0 < gt t (c * 14 + i + 1) then 1 else 0) (fun i hi => by rw [e1 i hi]), s2]
theorem rfS_le {V m c : Nat} {t : List (Nat × Nat)} (h : TV V m t) (hV : V ≤ 12) : rfS t c V ≤ 13 * (4 * m) := by
  refine Nat.le_trans (sm_bound (V + 1) (B := 4 * m) fun i _ => gt_le fun b hb => (h.2.2.2 b hb).2.2.2) (Nat.mul_le_mul_right _ (by omega))
theorem gt_rfS {V c w : Nat} {t : List (Nat × Nat)} (hw : w ≤ V) : gt t (c * 14 + w + 1) ≤ rfS t c V := sm_one (f := fun w => gt t (c * 14 + w + 1)) w (by omega)
