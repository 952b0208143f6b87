theorem sm_tail {f : Nat → Nat} {n : Nat} : ∀ k : Nat, (∀ i, n ≤ i → i < n + k → f i = 0) → sm f (n + k) = sm f n
  | 0, _ => rfl
  | k + 1, h => by
    rw [show n + (k + 1) = (n + k) + 1 from rfl, sm_s, h (n + k) (by omega) (by omega), sm_tail k (fun i h1 h2 => h i h1 (by omega))]
    rfl
/-- what stands behind a context, of the words above V: nothing -/
theorem gt_over {V m c w : Nat} {t : List (Nat × Nat)} (h : TV V m t) (hw : V < w) (h13 : w < 13) : gt t (c * 14 + w + 1) = 0 := gt_out fun b hb e => by
  have := h.2.2.2 b hb
  omega
theorem gt_sum13 {V m c : Nat} {t : List (Nat × Nat)} (h : TV V m t) (hV : V ≤ 12) : sm (fun w => gt t (c * 14 + w + 1)) 13 = sm (fun w => gt t (c * 14 + w + 1)) (V + 1) ∧ kd (fun w => gt t (c * 14 + w + 1)) 13 = kd (fun w => gt t (c * 14 + w + 1)) (V + 1) := by
  constructor
  · have := sm_tail (f := fun w => gt t (c * 14 + w + 1)) (n := V + 1) (12 - V) (fun i h1 h2 => gt_over h (by omega) (by omega))
    rwa [show V + 1 + (12 - V) = 13 by omega] at this
  · unfold kd
    have := sm_tail (f := fun w => if 0 < gt t (c * 14 + w + 1) then 1 else 0) (n := V + 1) (12 - V) (fun i h1 h2 => by
      rw [gt_over h (by omega) (by omega)]; rfl)
    rwa [show V + 1 + (12 - V) = 13 by omega] at this
/-- the sum of what is met behind a context is at most all counts -/
theorem sm_bound {f : Nat → Nat} {B : Nat} : ∀ n : Nat, (∀ i, i < n → f i ≤ B) → sm f n ≤ n * B
  | 0, _ => Nat.zero_le _
  | n + 1, h => by
    rw [sm_s, Nat.succ_mul]
    have := sm_bound n (fun i hi => h i (by omega))
    have := h n (by omega)
    omega
theorem kd_n {c : Nat → Nat} : ∀ n : Nat, kd c n ≤ n
  | 0 => Nat.le_refl _
  | n + 1 => by
    have := kd_n (c := c) n
    unfold kd at *
    rw [sm_s]
    split <;> omega
/-- java.util.Arrays.fill, over a row of the class's -/
def fi (f : Nat → Int) (i : Nat) (z : Int) : Nat → Int := fun j => if j < i then z else f j
theorem fi_up (f : Nat → Int) (i : Nat) (z : Int) : upI (fi f i z) i z = fi f (i + 1) z := by
  funext j
  unfold upI fi
  by_cases e : j = i
  · rw [if_pos e, if_pos (by omega)]
  · rw [if_neg e]
    by_cases e2 : j < i
    · rw [if_pos e2, if_pos (by omega)]
    · rw [if_neg e2, if_neg (by omega)]
theorem uA_uA (u : US) (k : Nat) (f g : Nat → Int) : uA (uA u k f) k g = uA u k g := by
  unfold uA
  congr 1
  funext j
  dsimp only
  split <;> rfl
theorem uA_self (u : US) (k : Nat) : uA u k (u.2 k) = u := by
  unfold uA
  refine Prod.ext rfl ?_
  funext j
  dsimp only
  split
  · rename_i e; rw [e]
  · rfl
theorem dJ7_fill_53178_0 : decode cJ7_fill_53178 0 = .ok (.iconst 0, 1) := by decide +kernel
theorem dJ7_fill_53178_1 : decode cJ7_fill_53178 1 = .ok (.istore_n 2, 1) := by decide +kernel
theorem dJ7_fill_53178_2 : decode cJ7_fill_53178 2 = .ok (.aload_n 0, 1) := by decide +kernel
theorem dJ7_fill_53178_3 : decode cJ7_fill_53178 3 = .ok (.arraylength, 1) := by decide +kernel
theorem dJ7_fill_53178_4 : decode cJ7_fill_53178 4 = .ok (.istore_n 3, 1) := by decide +kernel
theorem dJ7_fill_53178_5 : decode cJ7_fill_53178 5 = .ok (.iload_n 2, 1) := by decide +kernel
theorem dJ7_fill_53178_6 : decode cJ7_fill_53178 6 = .ok (.iload_n 3, 1) := by decide +kernel
theorem dJ7_fill_53178_7 : decode cJ7_fill_53178 7 = .ok (.if_icmp .ge 13, 3) := by decide +kernel
theorem dJ7_fill_53178_10 : decode cJ7_fill_53178 10 = .ok (.aload_n 0, 1) := by decide +kernel
theorem dJ7_fill_53178_11 : decode cJ7_fill_53178 11 = .ok (.iload_n 2, 1) := by decide +kernel
theorem dJ7_fill_53178_12 : decode cJ7_fill_53178 12 = .ok (.iload_n 1, 1) := by decide +kernel
theorem dJ7_fill_53178_13 : decode cJ7_fill_53178 13 = .ok (.iastore, 1) := by decide +kernel
theorem dJ7_fill_53178_14 : decode cJ7_fill_53178 14 = .ok (.iinc 2 1, 3) := by decide +kernel
theorem dJ7_fill_53178_17 : decode cJ7_fill_53178 17 = .ok (.goto (-12), 3) := by decide +kernel
theorem dJ7_fill_53178_20 : decode cJ7_fill_53178 20 = .ok (.return_, 1) := by decide +kernel
set_option maxHeartbeats 4000000 in
set_option maxRecDepth 100000 in
theorem mJ7_fill (l : Launch) (D : va_G) (κ a : Nat → Nat) (ε : EE) (u : US) (q n : Nat) (z : Int) (hn : n < 100) (hw : ∀ w : US, (WS κ a w)[q]? = some (a q, .inl (κ 0, n, .inl (iA (w.2 q))))) (hs : ∀ (w : US) (f : Nat → Int), (WS κ a w).set q (a q, .inl (κ 0, n, .inl (iA f))) = WS κ a (uA w q f)) : Ct (W0 κ a) l D κ ε yJ7_fill_53178 cJ7_fill_53178 4 none 0 0 0 0 u [.ref (a q), .int (iI z)] (fun v u' => v = none ∧ u' = uA u q (fi (u.2 q) n z)) := by
  refine Ct.of (own := RJ7) rfl (by decide +kernel) (Nat.le_of_ble_eq_true rfl) rfl (fun Γ h => ?_)
  refine w_iconst h (pc := 0) dJ7_fill_53178_0 ?_
  refine w_istore_n h (pc := 1) dJ7_fill_53178_1 (by decide) ?_
  refine w_aload_n h (pc := 2) dJ7_fill_53178_2 rfl ?_
  refine w_alen h (pc := 3) q 0 (hw u) rfl dJ7_fill_53178_3 ?_
  refine w_istore_n h (pc := 4) dJ7_fill_53178_4 (by decide) ?_
  have lp : ∀ (m i : Nat), n < i + m → i ≤ n → WW Γ 4 (uA u q (fi (u.2 q) i z)) 5 [(0, .ref (a q)), (1, .int (iI z)), (2, .int (iI (i : Int))), (3, .int (iI (n : Int)))] [] := by
    intro m
    induction m with
    | zero => intro i h1 h2; exfalso; omega
    | succ m ih =>
      intro i h1 h2
      refine w_iload_n h (pc := 5) dJ7_fill_53178_5 rfl ?_
      refine w_iload_n h (pc := 6) dJ7_fill_53178_6 rfl ?_
      refine w_icmp_ge h (pc := 7) (tgt := 20) dJ7_fill_53178_7 (by decide) (by omega) (by omega) (fun c => ?_) (fun c => ?_)
      · have e : i = n := by omega
        subst e
        exact w_vret h (pc := 20) rfl dJ7_fill_53178_20 (Nat.le_of_ble_eq_true rfl) (Nat.le_of_ble_eq_true rfl) ⟨rfl, rfl⟩
      · refine w_aload_n h (pc := 10) dJ7_fill_53178_10 rfl ?_
        refine w_iload_n h (pc := 11) dJ7_fill_53178_11 rfl ?_
        refine w_iload_n h (pc := 12) dJ7_fill_53178_12 rfl ?_
        refine w_iast h (pc := 13) q (hw _) (by omega) (by omega) dJ7_fill_53178_13 (uA u q (fi (u.2 q) (i + 1) z)) (by
          rw [uA_at, Int.toNat_natCast, upd_iA, fi_up]
          refine (hs _ _).trans ?_
          rw [uA_uA]
          rfl) rfl ?_
        refine w_iinc h (pc := 14) dJ7_fill_53178_14 rfl (by decide) ?_
        refine w_goto h (pc := 17) (tgt := 5) dJ7_fill_53178_17 (by decide) ?_
        exact WW.sub (by rfl) (ih (i + 1) (by omega) (by omega))
  have h0 := lp (n + 1) 0 (by omega) (by omega)
  have e0 : uA u q (fi (u.2 q) 0 z) = u := by
    have : fi (u.2 q) 0 z = u.2 q := by funext j; exact if_neg (Nat.not_lt_zero j)
    rw [this, uA_self]
  rw [e0] at h0
  exact WW.sub (by rfl) h0
