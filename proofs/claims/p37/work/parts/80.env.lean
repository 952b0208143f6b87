theorem tw_X0 : (.instantiable RX0 4 : Cond) ∈ lw_tbl := by decide +kernel
theorem tw_X1 : (.instantiable RX1 7 : Cond) ∈ lw_tbl := by decide +kernel
theorem tw_X2 : (.instantiable RX2 4 : Cond) ∈ lw_tbl := by decide +kernel
theorem tw_X3 : (.instantiable RX3 6 : Cond) ∈ lw_tbl := by decide +kernel
theorem tw_X4 : (.instantiable RX4 3 : Cond) ∈ lw_tbl := by decide +kernel
theorem tw_X5 : (.instantiable RX5 10 : Cond) ∈ lw_tbl := by decide +kernel
theorem tw_X6 : (.instantiable RX6 4 : Cond) ∈ lw_tbl := by decide +kernel
theorem tw_int : (.arrayClass .int : Cond) ∈ lw_tbl := by decide +kernel
theorem tw_bool : (.arrayClass .boolean : Cond) ∈ lw_tbl := by decide +kernel
theorem tw_tal : (.arrayOver (.object "Canticle$Tally") : Cond) ∈ lw_tbl := by decide +kernel
theorem tw_row : (.arrayOver (.array .int) : Cond) ∈ lw_tbl := by decide +kernel
theorem tw_lay : (.laysStatic "Canticle" "POWERS" "[I" : Cond) ∈ lw_tbl := by decide +kernel
theorem tw_ini : (.initialized "Canticle" : Cond) ∈ lw_tbl := by decide +kernel
theorem tw_f1 : (.fieldLinkNest "Canticle$Reckoner" 48 "Canticle" "POWERS" "[I" "Canticle" : Cond) ∈ lw_tbl := by decide +kernel
theorem tw_f2 : (.fieldLinkNest "Canticle$Ledger" 48 "Canticle" "POWERS" "[I" "Canticle" : Cond) ∈ lw_tbl := by decide +kernel
theorem tw_f3 : (.fieldLinkNest "Canticle$Search" 67 "Canticle" "POWERS" "[I" "Canticle" : Cond) ∈ lw_tbl := by decide +kernel
theorem tw_m1 : (.methodLinkNest RX5 36 yX2_init "Canticle" : Cond) ∈ lw_tbl := by decide +kernel
theorem tw_m2 : (.methodLinkNest RX0 27 yX4_init "Canticle" : Cond) ∈ lw_tbl := by decide +kernel
theorem tw_m3 : (.methodLinkNest RX3 81 yX5_cost "Canticle" : Cond) ∈ lw_tbl := by decide +kernel
theorem gw_a : (.arrayOf (.static "Canticle" "POWERS" "[I") .int : Cond) ∈ flatC (Jvm.Cond.and given_1 narrow_1) := by decide +kernel
theorem gw_l : (.eq (.length (.static "Canticle" "POWERS" "[I")) (.int 5) : Cond) ∈ flatC (Jvm.Cond.and given_1 narrow_1) := by decide +kernel
theorem gw_0 : (.eq (.elem (.static "Canticle" "POWERS" "[I") (.int 0)) (.int 1) : Cond) ∈ flatC (Jvm.Cond.and given_1 narrow_1) := by decide +kernel
theorem gw_1 : (.eq (.elem (.static "Canticle" "POWERS" "[I") (.int 1)) (.int 14) : Cond) ∈ flatC (Jvm.Cond.and given_1 narrow_1) := by decide +kernel
theorem gw_2 : (.eq (.elem (.static "Canticle" "POWERS" "[I") (.int 2)) (.int 196) : Cond) ∈ flatC (Jvm.Cond.and given_1 narrow_1) := by decide +kernel
theorem gw_3 : (.eq (.elem (.static "Canticle" "POWERS" "[I") (.int 3)) (.int 2744) : Cond) ∈ flatC (Jvm.Cond.and given_1 narrow_1) := by decide +kernel
theorem gw_4 : (.eq (.elem (.static "Canticle" "POWERS" "[I") (.int 4)) (.int 38416) : Cond) ∈ flatC (Jvm.Cond.and given_1 narrow_1) := by decide +kernel
set_option maxHeartbeats 4000000 in
set_option maxRecDepth 100000 in
theorem start_env {p : Program} {s : State} {m : MethodId} {meth : Method} {c : Code} {b L : Nat} {xs : Nat → Int32} (C0 : lw_At p s m meth c b L xs) : ∃ (D : va_G) (κ : Nat → Nat) (tp : Nat), va_K D vwCl (tys κ) s ∧ Ev (tp, b, L, xs) (fun q : Nat => s.heap.size ≤ q) s s.heap := by
  obtain ⟨hx, hb, hr, hml, hown0, hts0, hX, hbl, hlocks, hgv⟩ := C0
  have hfl := flat_of_before _ hgv
  have hA : ∀ a : Nat, a < s.heap.size → ¬ (fun q : Nat => s.heap.size ≤ q) a := fun a h => Nat.not_le.mpr h
  obtain ⟨c0, i0, hKn0⟩ := u_known (C := RX0) (T := TX0) (N := 4) (n := 4) hts0 tb_wsX00 (hts0 _ tw_X0)
  obtain ⟨c1, i1, hKn1⟩ := u_known (C := RX1) (T := TX1) (N := 7) (n := 7) hts0 tb_wsX10 (hts0 _ tw_X1)
  obtain ⟨c2, i2, hKn2⟩ := u_known (C := RX2) (T := TX2) (N := 4) (n := 4) hts0 tb_wsX20 (hts0 _ tw_X2)
  obtain ⟨c3, i3, hKn3⟩ := u_known (C := RX3) (T := TX3) (N := 6) (n := 6) hts0 tb_wsX30 (hts0 _ tw_X3)
  obtain ⟨c4, i4, hKn4⟩ := u_known (C := RX4) (T := TX4) (N := 3) (n := 3) hts0 tb_wsX40 (hts0 _ tw_X4)
  obtain ⟨c5, i5, hKn5⟩ := u_known (C := RX5) (T := TX5) (N := 10) (n := 10) hts0 tb_wsX50 (hts0 _ tw_X5)
  obtain ⟨c6, i6, hKn6⟩ := u_known (C := RX6) (T := TX6) (N := 4) (n := 4) hts0 tb_wsX60 (hts0 _ tw_X6)
  obtain ⟨a0, k0, m0, fa0, fk0, fm0⟩ := Cond.arrayClass_spec (hts0 _ tw_int)
  obtain ⟨a1, k1, m1, fa1, fk1, fm1⟩ := Cond.arrayClass_spec (hts0 _ tw_bool)
  obtain ⟨m2, a2, k2, fn2, -, fk2, fm2, fa2⟩ := Cond.arrayOver_spec (hts0 _ tw_tal)
  obtain ⟨m3, a3, k3, fn3, -, fk3, fm3, fa3⟩ := arrayOverA_spec (hts0 _ tw_row)
  obtain ⟨tp, hv0, hT0⟩ := va_Tof (tm := (.static "Canticle" "POWERS" "[I")) (ty := .int) (N := 5) (f := fun j => .int (iI (pw j))) (A := (fun q : Nat => s.heap.size ≤ q)) (by decide) (hfl _ gw_a) (va_eqt (hfl _ gw_l)) (fun j hj => by
    rcases (show j = 0 ∨ j = 1 ∨ j = 2 ∨ j = 3 ∨ j = 4 by omega) with rfl | rfl | rfl | rfl | rfl
    · show _ = some (Value.int (iI (pw 0)))
      rw [show iI (pw 0) = 1 from by decide +kernel]
      exact va_eqt (hfl _ gw_0)
    · show _ = some (Value.int (iI (pw 1)))
      rw [show iI (pw 1) = 14 from by decide +kernel]
      exact va_eqt (hfl _ gw_1)
    · show _ = some (Value.int (iI (pw 2)))
      rw [show iI (pw 2) = 196 from by decide +kernel]
      exact va_eqt (hfl _ gw_2)
    · show _ = some (Value.int (iI (pw 3)))
      rw [show iI (pw 3) = 2744 from by decide +kernel]
      exact va_eqt (hfl _ gw_3)
    · show _ = some (Value.int (iI (pw 4)))
      rw [show iI (pw 4) = 38416 from by decide +kernel]
      exact va_eqt (hfl _ gw_4)) hA
  refine ⟨(fun k => [c0, c1, c2, c3, c4, c5, c6].getD k 0, fun k => [i0, i1, i2, i3, i4, i5, i6].getD k (fun _ => 0)), (fun k => [a0, a1, a2, a3].getD k 0), tp, ⟨?_, ?_⟩, ?_⟩
  · intro k q hq
    match k, hq with
    | 0, hq => cases hq; exact hKn0
    | 1, hq => cases hq; exact hKn1
    | 2, hq => cases hq; exact hKn2
    | 3, hq => cases hq; exact hKn3
    | 4, hq => cases hq; exact hKn4
    | 5, hq => cases hq; exact hKn5
    | 6, hq => cases hq; exact hKn6
    | k + 7, hq => simp [vwCl] at hq
  · intro k q hq
    match k, hq with
    | 0, hq => cases hq; exact ⟨fun N z => ⟨(fun q hq => by cases hq), k0, fk0, m0, fm0⟩, fa0⟩
    | 1, hq => cases hq; exact ⟨fun N z => ⟨(fun q hq => by cases hq), k1, fk1, m1, fm1⟩, fa1⟩
    | 2, hq => cases hq; exact ⟨fun N z => ⟨(fun q hq => by cases hq), k2, fk2, m2, fm2⟩, k2, m2, fk2, fm2, fn2, fa2⟩
    | 3, hq => cases hq; exact ⟨fun N z => ⟨(fun q hq => by cases hq), k3, fk3, m3, fm3⟩, fa3⟩
    | k + 4, hq => simp at hq
  · obtain ⟨scr, x1, x2, x3, x4, x5⟩ := hX
    exact ⟨⟨va_Zof (hts0 _ tw_lay) (hts0 _ tw_ini) hv0 hA, scr, x1, x2, x3, Nat.le_of_eq x4.symm, by rw [x4], x5, hA b hbl⟩, hT0, va_Nw.of rfl (hts0 _ tw_f1), va_Nw.of rfl (hts0 _ tw_f2), va_Nw.of rfl (hts0 _ tw_f3), va_Nw.of rfl (hts0 _ tw_m1), va_Nw.of rfl (hts0 _ tw_m2), va_Nw.of rfl (hts0 _ tw_m3), va_AO.of (hts0 _ tw_tal), va_AOA.of (hts0 _ tw_row)⟩
