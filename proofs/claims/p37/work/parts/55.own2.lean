theorem set_mem {W : va_W} {i j : Nat} {x y : Nat × va_E} (h : W[i]? = some x) (hij : i ≠ j) : x ∈ W.set j y :=
  List.mem_of_getElem? (i := i) (by rw [List.getElem?_set_ne (fun e => hij e.symm)]; exact h)
theorem ne_io {W : va_W} {i j a b ci : Nat} {fs : List Value} {x : ClassId × vp_A} (hi : W[i]? = some (a, .inr (ci, fs))) (hj : W[j]? = some (b, .inl x)) : j ≠ i := by
  intro e
  rw [e, hi] at hj
  cases hj
theorem g4 {ws : va_W} {c d : Nat × va_E} : (ws ++ [c, d])[ws.length]? = some c := by
  rw [List.getElem?_append_right (Nat.le_refl _), Nat.sub_self]; rfl
theorem g5 {ws : va_W} {c d : Nat × va_E} : (ws ++ [c, d])[ws.length + 1]? = some d := by
  rw [List.getElem?_append_right (Nat.le_add_right _ _), Nat.add_sub_cancel_left]; rfl
theorem s4 {ws : va_W} {c d e : Nat × va_E} : (ws ++ [c, d]).set ws.length e = ws ++ [e, d] := by
  rw [List.set_append_right _ _ (Nat.le_refl _), Nat.sub_self]; rfl
theorem s5 {ws : va_W} {c d e : Nat × va_E} : (ws ++ [c, d]).set (ws.length + 1) e = ws ++ [c, e] := by
  rw [List.set_append_right _ _ (Nat.le_add_right _ _), Nat.add_sub_cancel_left]; rfl
theorem Own_at {κ : Nat → Nat} {b V N B : Nat} {W : va_W} (h : OwnOk κ b V N B W) : ∃ (q0 : Nat) (p3 p4 : Value), W[q0]? = some (b, .inr (6, [.int (iI (V : Int)), .int (iI (N : Int)), p3, p4])) := by
  obtain ⟨r, t, n, f, g, -, h1, -⟩ := h
  obtain ⟨q0, hq⟩ := List.getElem?_of_mem h1
  exact ⟨q0, _, _, hq⟩
theorem Own_times {κ : Nat → Nat} {b V N B i0 i1 i2 r t n : Nat} {W : va_W} {f : Nat → Option Nat} {g : Nat → Int32} (h0 : n ≤ B) (hB : B < 1000) (hb : W[i0]? = some (b, .inr (6, [.int (iI (V : Int)), .int (iI (N : Int)), .ref r, .ref t]))) (hr : W[i1]? = some (r, .inl (κ 3, n, .inr (.inr (.inr (.inr f)))))) (ht : W[i2]? = some (t, .inl (κ 0, n, .inl g))) (hel : ∀ j, j < n → ∃ (z m : Nat) (h : Nat → Int32), m < 1000 ∧ f j = some z ∧ ∃ k : Nat, W[k]? = some (z, .inl (κ 0, m, .inl h))) (g' : Nat → Int32) : OwnOk κ b V N B (W.set i2 (t, .inl (κ 0, n, .inl g'))) := by
  have hlt := (List.getElem?_eq_some_iff.mp ht).1
  refine ⟨r, t, n, f, g', h0, set_mem hb (ne_io hb ht).symm, set_mem hr ?_, List.mem_of_getElem? (i := i2) (List.getElem?_set_self hlt), fun j hj => ?_⟩
  · intro e
    rw [e, ht] at hr
    simp at hr
  · obtain ⟨z, m, h, hm, e, k, hk⟩ := hel j hj
    by_cases q : k = i2
    · rw [q, ht] at hk
      have hz : t = z := by simp at hk; exact hk.1
      refine ⟨z, n, g', by omega, e, List.mem_of_getElem? (i := i2) ?_⟩
      rw [List.getElem?_set_self hlt, hz]
    · exact ⟨z, m, h, hm, e, set_mem hk q⟩
theorem Own_grow {κ : Nat → Nat} {b V N B i0 j0 r t n q4 q5 y m : Nat} {W : va_W} {f : Nat → Option Nat} {g : Nat → Int32} (h0 : n ≤ B) (hb : W[i0]? = some (b, .inr (6, [.int (iI (V : Int)), .int (iI (N : Int)), .ref r, .ref t]))) (hel : ∀ j, j < n → ∃ (z m : Nat) (h : Nat → Int32), m < 1000 ∧ f j = some z ∧ ∃ k : Nat, W[k]? = some (z, .inl (κ 0, m, .inl h))) (hy : W[j0]? = some (y, .inl (κ 0, m, .inl g))) (hm : m < 1000) {W4 : va_W} (hW4 : W4 = W.set i0 (b, .inr (6, [.int (iI (V : Int)), .int (iI (N : Int)), .ref q4, .ref q5]))) {c5 : Nat × va_E} (g' : Nat → Int32) : OwnOk κ b V N (B + 1) ((W4 ++ [(q4, .inl (κ 3, n + 1, .inr (.inr (.inr (.inr (va_up (va_cpy f (fun _ => none) 0 0 n) n (some y))))))), c5]).set (W4.length + 1) (q5, .inl (κ 0, n + 1, .inl g'))) := by
  rw [s5]
  have hlt := (List.getElem?_eq_some_iff.mp hb).1
  have hin : ∀ {k z m : Nat} {h : Nat → Int32}, W[k]? = some (z, .inl (κ 0, m, .inl h)) → (z, (.inl (κ 0, m, .inl h) : va_E)) ∈ W4 := fun hk => by
    rw [hW4]; exact set_mem hk (ne_io hb hk)
  refine ⟨q4, q5, n + 1, _, g', by omega, List.mem_append_left _ ?_, List.mem_append_right _ List.mem_cons_self, List.mem_append_right _ (List.mem_cons_of_mem _ List.mem_cons_self), fun j hj => ?_⟩
  · rw [hW4]
    exact List.mem_of_getElem? (i := i0) (List.getElem?_set_self hlt)
  · by_cases e : j = n
    · subst e
      exact ⟨y, m, g, hm, va_up_self _ _ _, List.mem_append_left _ (hin hy)⟩
    · obtain ⟨z, mz, hz, h1, h2, k, hk⟩ := hel j (by omega)
      refine ⟨z, mz, hz, h1, ?_, List.mem_append_left _ (hin hk)⟩
      rw [va_up_ne _ _ e]
      unfold va_cpy
      rw [if_pos ⟨Nat.zero_le _, by omega⟩, Nat.sub_zero, Nat.zero_add]
      exact h2
