/-! meanCost's quotient: no NaN, and times the length it isn't more than a score more by one -/
theorem md_fin {x : UInt64} {n : Nat} (h : FP.Core.DInt (n : Int) x) : ∃ s c q, FP.Core.val64 x = .fin s c q ∧ FP.Core.fits FP.Core.b64 (.fin s c q) ∧ c * 2 ^ (q - FP.Core.b64.qmin).toNat = n * FP.Core.one64 := by
  have h1 := FP.Core.DInt_zval h
  have h2 := FP.Core.DInt_ne_nan h
  have h3 := FP.Core.val64_fits x
  have h4 : FP.Core.Whole (n : Int) (FP.Core.val64 x) := h
  cases hv : FP.Core.val64 x with
  | nan => exact absurd hv h2
  | inf s => rw [hv] at h4; exact h4.elim
  | fin s c q =>
    refine ⟨s, c, q, rfl, by rw [← hv]; exact h3, ?_⟩
    rw [hv] at h1
    have h5 := congrArg Int.natAbs h1
    unfold FP.Core.zval at h5
    rw [FP.Core.natAbs_signed, Int.natAbs_mul] at h5
    exact h5
theorem md_V (M : Nat) (hM : M < 2 ^ 53) : ∃ V : FP.Core.Datum, FP.Core.fits FP.Core.b64 V ∧ V ≠ .nan ∧ FP.Core.zmag FP.Core.b64 V = M * 2 ^ 1069 := by
  obtain ⟨c, q, h1, h2⟩ := FP.Core.round_exact FP.Core.good_b64 false (c := M) (q := -5) hM (by decide) (by decide)
  refine ⟨FP.Core.round FP.Core.b64 (.fin false M (-5)), FP.Core.round_fits FP.Core.good_b64 _, ?_, ?_⟩
  · rw [h1]; exact FP.Core.Datum.noConfusion
  · rw [h1]; exact h2
theorem md_div {a b : UInt64} {S k M : Nat} (ha : FP.Core.DInt (S : Int) a) (hb : FP.Core.DInt (k : Int) b) (hk : 1 ≤ k) (hM : M < 2 ^ 53) (h : 32 * S ≤ M * k) : FP.Core.val64 (FP.Core.ddiv a b) ≠ .nan ∧ FP.Core.zmag FP.Core.b64 (FP.Core.val64 (FP.Core.ddiv a b)) ≤ M * 2 ^ 1069 := by
  obtain ⟨s, c, q, e1, f1, g1⟩ := md_fin ha
  obtain ⟨t, d, r, e2, f2, g2⟩ := md_fin hb
  have hU := FP.Core.one64_pos
  have hd : 0 < d := by
    rcases Nat.eq_zero_or_pos d with e | e
    · rw [e, Nat.zero_mul] at g2
      have := Nat.mul_pos (show 0 < k from hk) hU
      omega
    · exact e
  have ev : FP.Core.val64 (FP.Core.ddiv a b) = FP.Core.roundRatio FP.Core.b64 (s != t) c d (q - r) := by
    rw [FP.Core.val64_ddiv, e1, e2]
    show (if d = 0 then _ else _) = _
    rw [if_neg (by omega)]
  rw [ev]
  refine ⟨FP.Core.roundRatio_ne_nan _ _ _ _ _, ?_⟩
  obtain ⟨V, v1, v2, v3⟩ := md_V M hM
  rw [← v3]
  have q1 : FP.Core.b64.qmin ≤ q := f1.2.1
  have r1 : FP.Core.b64.qmin ≤ r := f2.2.1
  obtain ⟨j, hj⟩ : ∃ j : Nat, r = FP.Core.b64.qmin + j := ⟨(r - FP.Core.b64.qmin).toNat, by omega⟩
  obtain ⟨i, hi⟩ : ∃ i : Nat, q = FP.Core.b64.qmin + i := ⟨(q - FP.Core.b64.qmin).toNat, by omega⟩
  have hq : FP.Core.b64.qmin = -1074 := by decide
  refine FP.Core.zmag_roundRatio_le FP.Core.good_b64 hd v1 v2 (e0 := FP.Core.b64.qmin - j) (by omega) (by omega) ?_
  rw [v3]
  unfold FP.Core.inUnits
  rw [show (q - r - (FP.Core.b64.qmin - j)).toNat = i + 1074 by omega, show (FP.Core.b64.qmin - (FP.Core.b64.qmin - (j : Int))).toNat = j by omega]
  rw [show (q - FP.Core.b64.qmin).toNat = i by omega] at g1
  rw [show (r - FP.Core.b64.qmin).toNat = j by omega] at g2
  rw [Nat.pow_add, ← Nat.mul_assoc, g1]
  rw [Nat.mul_assoc (M * 2 ^ 1069), Nat.mul_comm (2 ^ j) d, g2]
  unfold FP.Core.one64
  have e : (2 : Nat) ^ 1074 = 32 * 2 ^ 1069 := by rw [show 1074 = 5 + 1069 from rfl, Nat.pow_add]
  generalize (2 : Nat) ^ 1069 = W at e ⊢
  generalize (2 : Nat) ^ 1074 = Z at e ⊢
  calc S * Z * Z = (32 * S) * (W * Z) := by rw [e]; ac_rfl
    _ ≤ (M * k) * (W * Z) := Nat.mul_le_mul_right _ h
    _ = M * W * (k * Z) := by ac_rfl
theorem md_mul {x b y : UInt64} {k N : Nat} (hx : FP.Core.val64 x ≠ .nan) (hb : FP.Core.DInt (k : Int) b) (hy : FP.Core.DInt (N : Int) y) (hf : FP.Core.zmag FP.Core.b64 (FP.Core.val64 x) < FP.Core.b64.tails * 2 ^ (FP.Core.b64.exps - 2)) (h : FP.Core.zmag FP.Core.b64 (FP.Core.val64 x) * k ≤ N * FP.Core.one64) : FP.Core.val64 (FP.Core.dmul x b) ≠ .nan ∧ FP.Core.zval FP.Core.b64 (FP.Core.val64 (FP.Core.dmul x b)) ≤ FP.Core.zval FP.Core.b64 (FP.Core.val64 y) := by
  obtain ⟨t, d, r, e2, f2, g2⟩ := md_fin hb
  have h3 := FP.Core.val64_fits x
  have y1 := FP.Core.DInt_zval hy
  have y2 := FP.Core.val64_fits y
  have y3 := FP.Core.DInt_ne_nan hy
  rw [FP.Core.val64_dmul]
  cases hv : FP.Core.val64 x with
  | nan => exact absurd hv hx
  | inf s => rw [hv] at hf; exact absurd hf (Nat.lt_irrefl _)
  | fin s c q =>
    rw [hv] at h3 h hf
    rw [e2]
    have ev : FP.Core.round FP.Core.b64 (FP.Core.exactProduct (.fin s c q) (.fin t d r)) = FP.Core.roundRatio FP.Core.b64 (s != t) (c * d) 1 (q + r) := rfl
    rw [ev]
    refine ⟨FP.Core.roundRatio_ne_nan _ _ _ _ _, ?_⟩
    have q1 : FP.Core.b64.qmin ≤ q := h3.2.1
    have r1 : FP.Core.b64.qmin ≤ r := f2.2.1
    have hle : FP.Core.zmag FP.Core.b64 (FP.Core.roundRatio FP.Core.b64 (s != t) (c * d) 1 (q + r)) ≤ FP.Core.zmag FP.Core.b64 (FP.Core.val64 y) := by
      have hq : FP.Core.b64.qmin = -1074 := by decide
      have yz : FP.Core.zmag FP.Core.b64 (FP.Core.val64 y) = N * FP.Core.one64 := by
        have := congrArg Int.natAbs y1
        unfold FP.Core.zval at this
        rw [FP.Core.natAbs_signed, Int.natAbs_mul] at this
        exact this
      refine FP.Core.zmag_roundRatio_le FP.Core.good_b64 (by decide) y2 y3 (e0 := FP.Core.b64.qmin + FP.Core.b64.qmin) (by omega) (by omega) ?_
      rw [yz]
      have h5 : FP.Core.zmag FP.Core.b64 (.fin s c q) = c * 2 ^ (q - FP.Core.b64.qmin).toNat := rfl
      rw [h5] at h
      unfold FP.Core.inUnits
      rw [show (q + r - (FP.Core.b64.qmin + FP.Core.b64.qmin)).toNat = (q - FP.Core.b64.qmin).toNat + (r - FP.Core.b64.qmin).toNat by omega, show (FP.Core.b64.qmin - (FP.Core.b64.qmin + FP.Core.b64.qmin)).toNat = 1074 by omega, Nat.pow_add, Nat.mul_one]
      calc c * d * (2 ^ (q - FP.Core.b64.qmin).toNat * 2 ^ (r - FP.Core.b64.qmin).toNat) = c * 2 ^ (q - FP.Core.b64.qmin).toNat * (d * 2 ^ (r - FP.Core.b64.qmin).toNat) := by ac_rfl
        _ = c * 2 ^ (q - FP.Core.b64.qmin).toNat * k * FP.Core.one64 := by rw [g2]; exact (Nat.mul_assoc _ _ _).symm
        _ ≤ N * FP.Core.one64 * FP.Core.one64 := Nat.mul_le_mul_right _ h
    rw [y1]
    have yz : FP.Core.zmag FP.Core.b64 (FP.Core.val64 y) = N * FP.Core.one64 := by
      have := congrArg Int.natAbs y1
      unfold FP.Core.zval at this
      rw [FP.Core.natAbs_signed, Int.natAbs_mul] at this
      exact this
    rw [yz] at hle
    unfold FP.Core.zval
    have : ∀ (b : Bool) (n : Nat), FP.Core.signed b n ≤ (n : Int) := by intro b n; unfold FP.Core.signed; cases b <;> simp <;> omega
    refine Int.le_trans (this _ _) ?_
    rw [← Int.natCast_mul]
    exact Int.ofNat_le.mpr hle
theorem md_all {a b y : UInt64} {S k : Nat} (ha : FP.Core.DInt (S : Int) a) (hb : FP.Core.DInt (k : Int) b) (hy : FP.Core.DInt ((S + 1 : Nat) : Int) y) (hk : 1 ≤ k) (hk2 : k ≤ 13) (hS : S ≤ 1000000) : FP.Core.val64 (FP.Core.ddiv a b) ≠ .nan ∧ FP.Core.val64 (FP.Core.dmul (FP.Core.ddiv a b) b) ≠ .nan ∧ (FP.Core.dcmp (FP.Core.dmul (FP.Core.ddiv a b) b) y = some .lt ∨ FP.Core.dcmp (FP.Core.dmul (FP.Core.ddiv a b) b) y = some .eq) := by
  obtain ⟨M, hM⟩ : ∃ M, M = (32 * S + 12) / k := ⟨_, rfl⟩
  have hM1 : M * k ≤ 32 * S + 12 := by rw [hM]; exact Nat.div_mul_le_self _ _
  have hM2 : 32 * S ≤ M * k := by
    have := Nat.lt_div_mul_add (a := 32 * S + 12) (b := k) hk
    rw [← hM] at this
    omega
  have hM3 : M ≤ 32000012 := by
    have : M * 1 ≤ M * k := Nat.mul_le_mul_left _ hk
    omega
  obtain ⟨h1, h2⟩ := md_div ha hb hk (M := M) (Nat.lt_of_le_of_lt hM3 (by decide)) hM2
  have e : FP.Core.one64 = 32 * 2 ^ 1069 := by unfold FP.Core.one64; rw [show 1074 = 5 + 1069 from rfl, Nat.pow_add]
  have h3 : FP.Core.zmag FP.Core.b64 (FP.Core.val64 (FP.Core.ddiv a b)) < FP.Core.b64.tails * 2 ^ (FP.Core.b64.exps - 2) := by
    refine Nat.lt_of_le_of_lt h2 ?_
    have e1 : FP.Core.b64.tails = 2 ^ 52 := by decide
    have e2 : FP.Core.b64.exps - 2 = 977 + 1069 := by decide
    rw [e1, e2, Nat.pow_add, ← Nat.mul_assoc]
    refine Nat.mul_lt_mul_of_pos_right ?_ (Nat.two_pow_pos _)
    exact Nat.lt_of_lt_of_le (Nat.lt_of_le_of_lt hM3 (by decide : 32000012 < 2 ^ 52)) (Nat.le_mul_of_pos_right _ (Nat.two_pow_pos _))
  obtain ⟨h4, h5⟩ := md_mul (x := FP.Core.ddiv a b) h1 hb hy h3 (by
    refine Nat.le_trans (Nat.mul_le_mul_right k h2) ?_
    rw [e]
    generalize (2 : Nat) ^ 1069 = W
    calc M * W * k = M * k * W := by ac_rfl
      _ ≤ ((S + 1) * 32) * W := Nat.mul_le_mul_right _ (by omega)
      _ = (S + 1) * (32 * W) := by ac_rfl)
  exact ⟨h1, h4, FP.Core.dcmp_le.mpr ⟨h4, FP.Core.DInt_ne_nan hy, h5⟩⟩
theorem md_n64 {x : UInt64} (h : FP.Core.val64 x ≠ .nan) : x &&& 0x7fffffffffffffff ≤ 0x7ff0000000000000 := by
  rw [FP.Core.ne_nan] at h
  rw [UInt64.le_iff_toNat_le, UInt64.toNat_and]
  show x.toNat &&& (2 ^ 63 - 1) ≤ 9218868437227405312
  rw [Nat.and_two_pow_sub_one_eq_mod]
  exact h
theorem md_i {n : Nat} (h : n < 2147483648) : FP.Core.DInt (n : Int) (FP.i2d (iI (n : Int))) := by
  have := FP.Core.i2d_int (iI (n : Int))
  rwa [iI_toInt (by omega)] at this
theorem md_1 {S k : Nat} (hk : 1 ≤ k) (hk2 : k ≤ 13) (hS : S ≤ 1000000) : vf_n64 (FP.ddiv (FP.i2d (iI (S : Int))) (FP.i2d (iI (k : Int)))) := md_n64 (md_all (md_i (by omega)) (md_i (by omega)) (md_i (by omega)) hk hk2 hS).1
theorem md_2 {S k : Nat} (hk : 1 ≤ k) (hk2 : k ≤ 13) (hS : S ≤ 1000000) : vf_n64 (FP.dmul (FP.ddiv (FP.i2d (iI (S : Int))) (FP.i2d (iI (k : Int)))) (FP.i2d (iI (k : Int)))) := md_n64 (md_all (md_i (by omega)) (md_i (by omega)) (md_i (by omega)) hk hk2 hS).2.1
theorem md_3 {S k : Nat} (hk : 1 ≤ k) (hk2 : k ≤ 13) (hS : S ≤ 1000000) : FP.dcmp (FP.dmul (FP.ddiv (FP.i2d (iI (S : Int))) (FP.i2d (iI (k : Int)))) (FP.i2d (iI (k : Int)))) (FP.i2d (iI ((S + 1 : Nat) : Int))) = some .lt ∨ FP.dcmp (FP.dmul (FP.ddiv (FP.i2d (iI (S : Int))) (FP.i2d (iI (k : Int)))) (FP.i2d (iI (k : Int)))) (FP.i2d (iI ((S + 1 : Nat) : Int))) = some .eq := (md_all (md_i (by omega)) (md_i (by omega)) (md_i (by omega)) hk hk2 hS).2.2
