section R2
variable {S : Type} {Wx : S → va_W × Nat × Nat} {l : Launch} {D : va_G} {κ : Nat → Nat} {ε : EE} {own : String} {cc : ByteArray} {mL : Nat} {ret : Option FieldType} {R : Room} {post : Option Value → S → Prop} {Γ : S → Nat → Array Slot → List Value → Prop} {u : S} {pc : Nat} {L : List (Nat × Value)} {st : List Value}
theorem w_aald2 (h : Cx Wx l D κ ε own cc mL ret R post Γ) {a : Nat} (q0 : Nat) {n : Nat} {f : Nat → Option Nat} (he : (Wx u).1[q0]? = some (a, .inl (κ 3, n, .inr (.inr (.inr (.inr f)))))) {i : Int} (hi : 0 ≤ i ∧ i < n) (hn : n < 2147483648) {b : Nat} (hv : f i.toNat = some b) (d : decode cc pc = .ok (.aaload, 1)) (k : WW Γ mL u (pc + 1) L (.ref b :: st)) : WW Γ mL u pc L (.int (iI i) :: .ref a :: st) := by
  obtain ⟨p, e, s, m, args, below, meth, c, A, Q, rfl, hx, hb, hml, hown, hts, hK, hE, hA, hfin⟩ := h
  intro ls hl H locs hP hD hS
  have hin : vp_in (iI i) n := iI_in hi hn
  have hlt : (iI i).toNatClampNeg < n := Nat.not_le.mp fun q => hin (Or.inr q)
  have hv2 : va_rf (f (iI i).toNatClampNeg) = .ref b := by rw [iI_clamp hi.1 (by omega), hv]; rfl
  exact W.aald (v := .ref b) (ty := .array .int) hx hb (hP q0 _ he) ((hK.2 3 _ rfl).1 n (fun j => va_rf (f j))) rfl (fun q => by cases q) (by show ¬ (iI i < 0 ∨ (arrV _ _ _).slots.size ≤ _); rw [arrV_size]; exact hin) (by show (arrV _ _ _).slots[_]? = _; rw [arrV_read _ _ hlt, hv2]) rfl rfl d (k ls hl H locs hP hD hS)
end R2
theorem ld_choices {l : Launch} {D : va_G} {κ a : Nat → Nat} {ε : EE} {own : String} {cc : ByteArray} {mL : Nat} {ret : Option FieldType} {R : Room} {post : Option Value → US → Prop} {Γ : US → Nat → Array Slot → List Value → Prop} {u : US} {pc : Nat} {L : List (Nat × Value)} {st : List Value} (h : Cx (W0 κ a) l D κ ε own cc mL ret R post Γ) {i : Int} (hi : 0 ≤ i ∧ i < 12) {q : Nat} (hq : q = 18 + i.toNat) (d : decode cc pc = .ok (.aaload, 1)) (k : WW Γ mL u (pc + 1) L (.ref (a q) :: st)) : WW Γ mL u pc L (.int (iI i) :: .ref (a 12) :: st) := by
  subst hq
  exact w_aald2 h 12 rfl hi (Nat.le_of_ble_eq_true rfl) rfl d k
theorem pow_lim {V ch : Nat} (hV : 1 ≤ V ∧ V ≤ 12) (hc : ch ≤ 2) : 1 ≤ V ^ ch ∧ V ^ ch ≤ 144 := by
  rcases (by omega : ch = 0 ∨ ch = 1 ∨ ch = 2) with rfl | rfl | rfl
  · rw [Nat.pow_zero]; omega
  · rw [Nat.pow_one]; omega
  · rw [Nat.pow_two]
    have h1 : 1 * 1 ≤ V * V := Nat.mul_le_mul hV.1 hV.1
    have h2 : V * V ≤ 12 * 12 := Nat.mul_le_mul hV.2 hV.2
    omega
theorem kyAt_lt {V N c ch s : Nat} (hV : 1 ≤ V ∧ V ≤ 12) (hN : 1 ≤ N ∧ N ≤ 4) (hc : ch ≤ N - 1) : kyAt V N c ch s < 2744 := by
  unfold kyAt p14
  have h1 := kof_lt (s := s) hV ch
  have h2 : c % 14 ^ (N - 1 - ch) < 14 ^ (N - 1 - ch) := Nat.mod_lt _ (Nat.pow_pos (by omega))
  have h3 : (c % 14 ^ (N - 1 - ch) + 1) * 14 ^ ch ≤ 14 ^ (N - 1 - ch) * 14 ^ ch := Nat.mul_le_mul_right _ h2
  rw [← Nat.pow_add, show N - 1 - ch + ch = N - 1 by omega, Nat.succ_mul] at h3
  have h4 : 14 ^ (N - 1) ≤ 14 ^ 3 := Nat.pow_le_pow_right (by omega) (by omega)
  have h5 : (14 : Nat) ^ 3 = 2744 := by decide
  omega
theorem Lr_lim {V N more : Nat} {Cc : Nat → Nat → Nat → Nat} (h : ∀ a b c, Cc a b c ≤ 32768) : ∀ k s : Nat, Lr V N Cc more k s ≤ 32768 * (k + 1)
  | 0, s => by show Cc _ _ _ ≤ _; have := h (min more (N - 1)) s V; omega
  | k + 1, s => by
    rw [Lr_s]
    have h1 := h (min (more - k - 1) (N - 1)) s (am (fun w => Cc (min (more - k - 1) (N - 1)) s w + Lr V N Cc more k (nx V N (more - k - 1) s w)) V)
    have h2 := Lr_lim (V := V) (N := N) (more := more) h k (nx V N (more - k - 1) s (am (fun w => Cc (min (more - k - 1) (N - 1)) s w + Lr V N Cc more k (nx V N (more - k - 1) s w)) V))
    omega
theorem lb_cs (z : Int) : lb z = 13 ∨ lb z = 14 := by
  unfold lb
  split
  · exact Or.inl rfl
  · exact Or.inr rfl
