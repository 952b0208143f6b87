theorem wd329_X5_cost : (.constant RX5 163 1000000 : Cond) ∈ wsX5_cost := by decide +kernel

theorem wd330_X5_cost : (.constant RX5 309 32768 : Cond) ∈ wsX5_cost := by decide +kernel

set_option maxHeartbeats 4000000 in
set_option maxRecDepth 100000 in
theorem k_X5_cost_0 (l : Launch) (D : va_G) (κ ε : Nat → Nat) (p0 : Int32) : Met l yX5_cost wsX5_cost ({ frames := 0, cells := 0, slots := 0, locals := 0 }) (va_Pc [.int p0] (Pre0 D κ [])) (vp_Si (fun r => ((0 < p0) ∧ (p0 < 1000000) ∧ (500000 < p0) ∧ (r = ((1024 * (1000000 - p0)) / 500000))) ∨ ((0 < p0) ∧ (p0 < 1000000) ∧ (¬ 500000 < p0) ∧ (250000 < p0) ∧ (r = (1024 + ((1024 * (500000 - p0)) / 250000)))) ∨ ((0 < p0) ∧ (p0 < 1000000) ∧ (¬ 500000 < p0) ∧ (¬ 250000 < p0) ∧ (125000 < p0) ∧ (r = (2048 + ((1024 * (250000 - p0)) / 125000)))) ∨ ((0 < p0) ∧ (p0 < 1000000) ∧ (¬ 500000 < p0) ∧ (¬ 250000 < p0) ∧ (¬ 125000 < p0) ∧ (62500 < p0) ∧ (r = (3072 + ((1024 * (125000 - p0)) / 62500)))) ∨ ((0 < p0) ∧ (p0 < 1000000) ∧ (¬ 500000 < p0) ∧ (¬ 250000 < p0) ∧ (¬ 125000 < p0) ∧ (¬ 62500 < p0) ∧ (31250 < p0) ∧ (r = (4096 + ((1024 * (62500 - p0)) / 31250)))) ∨ ((0 < p0) ∧ (p0 < 1000000) ∧ (¬ 500000 < p0) ∧ (¬ 250000 < p0) ∧ (¬ 125000 < p0) ∧ (¬ 62500 < p0) ∧ (¬ 31250 < p0) ∧ (15625 < p0) ∧ (r = (5120 + ((1024 * (31250 - p0)) / 15625)))) ∨ ((0 < p0) ∧ (p0 < 1000000) ∧ (¬ 500000 < p0) ∧ (¬ 250000 < p0) ∧ (¬ 125000 < p0) ∧ (¬ 62500 < p0) ∧ (¬ 31250 < p0) ∧ (¬ 15625 < p0) ∧ (7812 < p0) ∧ (r = (6144 + ((1024 * (15625 - p0)) / 7813)))) ∨ ((0 < p0) ∧ (p0 < 1000000) ∧ (¬ 500000 < p0) ∧ (¬ 250000 < p0) ∧ (¬ 125000 < p0) ∧ (¬ 62500 < p0) ∧ (¬ 31250 < p0) ∧ (¬ 15625 < p0) ∧ (¬ 7812 < p0) ∧ (3906 < p0) ∧ (r = (7168 + ((1024 * (7812 - p0)) / 3906)))) ∨ ((0 < p0) ∧ (p0 < 1000000) ∧ (¬ 500000 < p0) ∧ (¬ 250000 < p0) ∧ (¬ 125000 < p0) ∧ (¬ 62500 < p0) ∧ (¬ 31250 < p0) ∧ (¬ 15625 < p0) ∧ (¬ 7812 < p0) ∧ (¬ 3906 < p0) ∧ (1953 < p0) ∧ (r = (8192 + ((1024 * (3906 - p0)) / 1953)))) ∨ ((0 < p0) ∧ (p0 < 1000000) ∧ (¬ 500000 < p0) ∧ (¬ 250000 < p0) ∧ (¬ 125000 < p0) ∧ (¬ 62500 < p0) ∧ (¬ 31250 < p0) ∧ (¬ 15625 < p0) ∧ (¬ 7812 < p0) ∧ (¬ 3906 < p0) ∧ (¬ 1953 < p0) ∧ (976 < p0) ∧ (r = (9216 + ((1024 * (1953 - p0)) / 977)))) ∨ ((0 < p0) ∧ (p0 < 1000000) ∧ (¬ 500000 < p0) ∧ (¬ 250000 < p0) ∧ (¬ 125000 < p0) ∧ (¬ 62500 < p0) ∧ (¬ 31250 < p0) ∧ (¬ 15625 < p0) ∧ (¬ 7812 < p0) ∧ (¬ 3906 < p0) ∧ (¬ 1953 < p0) ∧ (¬ 976 < p0) ∧ (488 < p0) ∧ (r = (10240 + ((1024 * (976 - p0)) / 488)))) ∨ ((0 < p0) ∧ (p0 < 1000000) ∧ (¬ 500000 < p0) ∧ (¬ 250000 < p0) ∧ (¬ 125000 < p0) ∧ (¬ 62500 < p0) ∧ (¬ 31250 < p0) ∧ (¬ 15625 < p0) ∧ (¬ 7812 < p0) ∧ (¬ 3906 < p0) ∧ (¬ 1953 < p0) ∧ (¬ 976 < p0) ∧ (¬ 488 < p0) ∧ (244 < p0) ∧ (r = (11264 + ((1024 * (488 - p0)) / 244)))) ∨ ((0 < p0) ∧ (p0 < 1000000) ∧ (¬ 500000 < p0) ∧ (¬ 250000 < p0) ∧ (¬ 125000 < p0) ∧ (¬ 62500 < p0) ∧ (¬ 31250 < p0) ∧ (¬ 15625 < p0) ∧ (¬ 7812 < p0) ∧ (¬ 3906 < p0) ∧ (¬ 1953 < p0) ∧ (¬ 976 < p0) ∧ (¬ 488 < p0) ∧ (¬ 244 < p0) ∧ (122 < p0) ∧ (r = (12288 + ((1024 * (244 - p0)) / 122)))) ∨ ((0 < p0) ∧ (p0 < 1000000) ∧ (¬ 500000 < p0) ∧ (¬ 250000 < p0) ∧ (¬ 125000 < p0) ∧ (¬ 62500 < p0) ∧ (¬ 31250 < p0) ∧ (¬ 15625 < p0) ∧ (¬ 7812 < p0) ∧ (¬ 3906 < p0) ∧ (¬ 1953 < p0) ∧ (¬ 976 < p0) ∧ (¬ 488 < p0) ∧ (¬ 244 < p0) ∧ (¬ 122 < p0) ∧ (61 < p0) ∧ (r = (13312 + ((1024 * (122 - p0)) / 61)))) ∨ ((0 < p0) ∧ (p0 < 1000000) ∧ (¬ 500000 < p0) ∧ (¬ 250000 < p0) ∧ (¬ 125000 < p0) ∧ (¬ 62500 < p0) ∧ (¬ 31250 < p0) ∧ (¬ 15625 < p0) ∧ (¬ 7812 < p0) ∧ (¬ 3906 < p0) ∧ (¬ 1953 < p0) ∧ (¬ 976 < p0) ∧ (¬ 488 < p0) ∧ (¬ 244 < p0) ∧ (¬ 122 < p0) ∧ (¬ 61 < p0) ∧ (30 < p0) ∧ (r = (14336 + ((1024 * (61 - p0)) / 31)))) ∨ ((0 < p0) ∧ (p0 < 1000000) ∧ (¬ 500000 < p0) ∧ (¬ 250000 < p0) ∧ (¬ 125000 < p0) ∧ (¬ 62500 < p0) ∧ (¬ 31250 < p0) ∧ (¬ 15625 < p0) ∧ (¬ 7812 < p0) ∧ (¬ 3906 < p0) ∧ (¬ 1953 < p0) ∧ (¬ 976 < p0) ∧ (¬ 488 < p0) ∧ (¬ 244 < p0) ∧ (¬ 122 < p0) ∧ (¬ 61 < p0) ∧ (¬ 30 < p0) ∧ (15 < p0) ∧ (r = (15360 + ((1024 * (30 - p0)) / 15)))) ∨ ((0 < p0) ∧ (p0 < 1000000) ∧ (¬ 500000 < p0) ∧ (¬ 250000 < p0) ∧ (¬ 125000 < p0) ∧ (¬ 62500 < p0) ∧ (¬ 31250 < p0) ∧ (¬ 15625 < p0) ∧ (¬ 7812 < p0) ∧ (¬ 3906 < p0) ∧ (¬ 1953 < p0) ∧ (¬ 976 < p0) ∧ (¬ 488 < p0) ∧ (¬ 244 < p0) ∧ (¬ 122 < p0) ∧ (¬ 61 < p0) ∧ (¬ 30 < p0) ∧ (¬ 15 < p0) ∧ (7 < p0) ∧ (r = (16384 + ((1024 * (15 - p0)) / 8)))) ∨ ((0 < p0) ∧ (p0 < 1000000) ∧ (¬ 500000 < p0) ∧ (¬ 250000 < p0) ∧ (¬ 125000 < p0) ∧ (¬ 62500 < p0) ∧ (¬ 31250 < p0) ∧ (¬ 15625 < p0) ∧ (¬ 7812 < p0) ∧ (¬ 3906 < p0) ∧ (¬ 1953 < p0) ∧ (¬ 976 < p0) ∧ (¬ 488 < p0) ∧ (¬ 244 < p0) ∧ (¬ 122 < p0) ∧ (¬ 61 < p0) ∧ (¬ 30 < p0) ∧ (¬ 15 < p0) ∧ (¬ 7 < p0) ∧ (3 < p0) ∧ (r = (17408 + ((1024 * (7 - p0)) / 4)))) ∨ ((0 < p0) ∧ (p0 < 1000000) ∧ (¬ 500000 < p0) ∧ (¬ 250000 < p0) ∧ (¬ 125000 < p0) ∧ (¬ 62500 < p0) ∧ (¬ 31250 < p0) ∧ (¬ 15625 < p0) ∧ (¬ 7812 < p0) ∧ (¬ 3906 < p0) ∧ (¬ 1953 < p0) ∧ (¬ 976 < p0) ∧ (¬ 488 < p0) ∧ (¬ 244 < p0) ∧ (¬ 122 < p0) ∧ (¬ 61 < p0) ∧ (¬ 30 < p0) ∧ (¬ 15 < p0) ∧ (¬ 7 < p0) ∧ (¬ 3 < p0) ∧ (1 < p0) ∧ (r = (18432 + ((1024 * (3 - p0)) / 2)))) ∨ ((0 < p0) ∧ (p0 < 1000000) ∧ (¬ 500000 < p0) ∧ (¬ 250000 < p0) ∧ (¬ 125000 < p0) ∧ (¬ 62500 < p0) ∧ (¬ 31250 < p0) ∧ (¬ 15625 < p0) ∧ (¬ 7812 < p0) ∧ (¬ 3906 < p0) ∧ (¬ 1953 < p0) ∧ (¬ 976 < p0) ∧ (¬ 488 < p0) ∧ (¬ 244 < p0) ∧ (¬ 122 < p0) ∧ (¬ 61 < p0) ∧ (¬ 30 < p0) ∧ (¬ 15 < p0) ∧ (¬ 7 < p0) ∧ (¬ 3 < p0) ∧ (¬ 1 < p0) ∧ (r = (19456 + ((1024 * (1 - p0)) / 1)))) ∨ ((0 < p0) ∧ (¬ p0 < 1000000) ∧ (r = 0)) ∨ ((¬ 0 < p0) ∧ (r = 32768)))) 0 0 (fun _ => False) := by
  refine Met.ofW (cc := cX5_cost) (maxL := 4) (ret := (some .int)) (by decide) rfl ?_
  intro p e s m args below meth c s₁ B hml hv
  obtain ⟨rfl, hP, hK⟩ := hv
  have hx := B.exec
  have hb := B.bytes
  have hr := B.returns
  have hts := atoms_spec (ws := wsX5_cost) B.pre
  have hown : s.vm.findClass RX5 = some m.cls := findClass_of_methodNamed B.named
  have hlocks := B.notSynchronized
  have hP : va_P D vwCl [] s.heap := hP
  have hl := lv_entry [.int p0] (n := 4) (Nat.le_of_ble_eq_true rfl)
  rw [lg_entry_eq]
  generalize (lg_sl [.int p0] ++ List.replicate (4 - (lg_sl [.int p0]).length) Slot.unset).toArray = ls at hl ⊢
  have hl : lv_has ls 4 [(0, .int p0)] := hl
  refine lv_iload_n hx hb dX5_cost_0 rfl (lv_at hl 0 rfl) ?_
  refine lv_if_gt (tgt := 8) hx hb dX5_cost_1 (by decide) (fun c1 => ?_) (fun c1 => ?_)
  · skip
    refine lv_iload_n hx hb dX5_cost_8 rfl (lv_at hl 0 rfl) ?_
    refine lv_ldc (v := 1000000) hx hb hown (hts _ wd329_X5_cost) dX5_cost_9 ?_
    refine lv_icmp_lt (tgt := 16) hx hb dX5_cost_11 (by decide) (fun c2 => ?_) (fun c2 => ?_)
    · skip
      refine lv_iconst (v := 0) hx hb dX5_cost_16 (by decide) ?_
      refine lv_istore_n (lv' := [(1, .int 0), (0, .int p0)]) hx hb dX5_cost_17 rfl hl (by decide) rfl (fun ls hl => ?_)
      refine lv_iload_n hx hb dX5_cost_18 rfl (lv_at hl 0 rfl) ?_
      refine lv_bipush (v := 19) hx hb dX5_cost_19 (by decide) ?_
      refine lv_icmp_ge (tgt := 40) hx hb dX5_cost_21 (by decide) (fun h => absurd h (by decide)) (fun _ => ?_)
      refine lv_iload_n hx hb dX5_cost_24 rfl (lv_at hl 1 rfl) ?_
      refine lv_ldc (v := 1000000) hx hb hown (hts _ wd329_X5_cost) dX5_cost_25 ?_
      refine lv_iload_n hx hb dX5_cost_27 rfl (lv_at hl 0 rfl) ?_
      refine lv_iconst (v := 1) hx hb dX5_cost_28 (by decide) ?_
      refine lv_iadd hx hb dX5_cost_29 ?_
      refine tpi (v := 1) (by decide) ?_
      refine lv_ishr hx hb dX5_cost_30 ?_
      refine tpi (v := 500000) (by decide) ?_
      refine lv_icmp_gt (tgt := 40) hx hb dX5_cost_31 (by decide) (fun c3 => ?_) (fun c3 => ?_)
      · skip
        refine lv_ldc (v := 1000000) hx hb hown (hts _ wd329_X5_cost) dX5_cost_40 ?_
        refine lv_iload_n hx hb dX5_cost_42 rfl (lv_at hl 0 rfl) ?_
        refine lv_ishr hx hb dX5_cost_43 ?_
        refine tpi (v := 1000000) (by decide) ?_
        refine lv_istore_n (lv' := [(2, .int 1000000), (1, .int 0), (0, .int p0)]) hx hb dX5_cost_44 rfl hl (by decide) rfl (fun ls hl => ?_)
        refine lv_ldc (v := 1000000) hx hb hown (hts _ wd329_X5_cost) dX5_cost_45 ?_
        refine lv_iload_n hx hb dX5_cost_47 rfl (lv_at hl 1 rfl) ?_
        refine lv_iconst (v := 1) hx hb dX5_cost_48 (by decide) ?_
        refine lv_iadd hx hb dX5_cost_49 ?_
        refine tpi (v := 1) (by decide) ?_
        refine lv_ishr hx hb dX5_cost_50 ?_
        refine tpi (v := 500000) (by decide) ?_
        refine lv_istore_n (lv' := [(3, .int 500000), (2, .int 1000000), (1, .int 0), (0, .int p0)]) hx hb dX5_cost_51 rfl hl (by decide) rfl (fun ls hl => ?_)
        refine lv_sipush (v := 1024) hx hb dX5_cost_52 (by decide) ?_
        refine lv_iload_n hx hb dX5_cost_55 rfl (lv_at hl 2 rfl) ?_
        refine lv_imul hx hb dX5_cost_56 ?_
        refine tpi (v := 0) (by decide) ?_
        refine lv_sipush (v := 1024) hx hb dX5_cost_57 (by decide) ?_
        refine lv_iload_n hx hb dX5_cost_60 rfl (lv_at hl 1 rfl) ?_
        refine lv_iload_n hx hb dX5_cost_61 rfl (lv_at hl 3 rfl) ?_
        refine lv_isub hx hb dX5_cost_62 ?_
        refine lv_imul hx hb dX5_cost_63 ?_
        refine lv_iload_n hx hb dX5_cost_64 rfl (lv_at hl 1 rfl) ?_
        refine lv_iload_n hx hb dX5_cost_65 rfl (lv_at hl 0 rfl) ?_
        refine lv_isub hx hb dX5_cost_66 ?_
        refine tpi (v := 500000) (by decide) ?_
        refine lv_idiv hx hb dX5_cost_67 (by decide) ?_
        refine lv_iadd hx hb dX5_cost_68 ?_
        refine tpi (v := ((1024 * (1000000 - p0)) / 500000)) (Int32.zero_add _) ?_
        exact W.iret (v := ((1024 * (1000000 - p0)) / 500000)) hx hb hr (fun t ht hW => ⟨((1024 * (1000000 - p0)) / 500000), rfl, (Or.inl ⟨c1, c2, c3, rfl⟩), ht⟩) (fun q hq => absurd hq List.not_mem_nil) dX5_cost_69
      · skip
        refine lv_iinc (v := 1) (lv' := [(1, .int 1), (0, .int p0)]) hx hb dX5_cost_34 hl (k := 0) rfl (by decide) (by decide) rfl (fun ls hl => ?_)
        refine lv_goto (tgt := 18) hx hb dX5_cost_37 (by decide) ?_
        refine lv_iload_n hx hb dX5_cost_18 rfl (lv_at hl 0 rfl) ?_
        refine lv_bipush (v := 19) hx hb dX5_cost_19 (by decide) ?_
        refine lv_icmp_ge (tgt := 40) hx hb dX5_cost_21 (by decide) (fun h => absurd h (by decide)) (fun _ => ?_)
        refine lv_iload_n hx hb dX5_cost_24 rfl (lv_at hl 1 rfl) ?_
        refine lv_ldc (v := 1000000) hx hb hown (hts _ wd329_X5_cost) dX5_cost_25 ?_
        refine lv_iload_n hx hb dX5_cost_27 rfl (lv_at hl 0 rfl) ?_
        refine lv_iconst (v := 1) hx hb dX5_cost_28 (by decide) ?_
        refine lv_iadd hx hb dX5_cost_29 ?_
        refine tpi (v := 2) (by decide) ?_
        refine lv_ishr hx hb dX5_cost_30 ?_
        refine tpi (v := 250000) (by decide) ?_
        refine lv_icmp_gt (tgt := 40) hx hb dX5_cost_31 (by decide) (fun c4 => ?_) (fun c4 => ?_)
        · skip
          refine lv_ldc (v := 1000000) hx hb hown (hts _ wd329_X5_cost) dX5_cost_40 ?_
          refine lv_iload_n hx hb dX5_cost_42 rfl (lv_at hl 0 rfl) ?_
          refine lv_ishr hx hb dX5_cost_43 ?_
          refine tpi (v := 500000) (by decide) ?_
          refine lv_istore_n (lv' := [(2, .int 500000), (1, .int 1), (0, .int p0)]) hx hb dX5_cost_44 rfl hl (by decide) rfl (fun ls hl => ?_)
          refine lv_ldc (v := 1000000) hx hb hown (hts _ wd329_X5_cost) dX5_cost_45 ?_
          refine lv_iload_n hx hb dX5_cost_47 rfl (lv_at hl 1 rfl) ?_
          refine lv_iconst (v := 1) hx hb dX5_cost_48 (by decide) ?_
          refine lv_iadd hx hb dX5_cost_49 ?_
          refine tpi (v := 2) (by decide) ?_
          refine lv_ishr hx hb dX5_cost_50 ?_
          refine tpi (v := 250000) (by decide) ?_
          refine lv_istore_n (lv' := [(3, .int 250000), (2, .int 500000), (1, .int 1), (0, .int p0)]) hx hb dX5_cost_51 rfl hl (by decide) rfl (fun ls hl => ?_)
          refine lv_sipush (v := 1024) hx hb dX5_cost_52 (by decide) ?_
          refine lv_iload_n hx hb dX5_cost_55 rfl (lv_at hl 2 rfl) ?_
          refine lv_imul hx hb dX5_cost_56 ?_
          refine tpi (v := 1024) (by decide) ?_
          refine lv_sipush (v := 1024) hx hb dX5_cost_57 (by decide) ?_
          refine lv_iload_n hx hb dX5_cost_60 rfl (lv_at hl 1 rfl) ?_
          refine lv_iload_n hx hb dX5_cost_61 rfl (lv_at hl 3 rfl) ?_
          refine lv_isub hx hb dX5_cost_62 ?_
          refine lv_imul hx hb dX5_cost_63 ?_
          refine lv_iload_n hx hb dX5_cost_64 rfl (lv_at hl 1 rfl) ?_
          refine lv_iload_n hx hb dX5_cost_65 rfl (lv_at hl 0 rfl) ?_
          refine lv_isub hx hb dX5_cost_66 ?_
          refine tpi (v := 250000) (by decide) ?_
          refine lv_idiv hx hb dX5_cost_67 (by decide) ?_
          refine lv_iadd hx hb dX5_cost_68 ?_
          exact W.iret (v := (1024 + ((1024 * (500000 - p0)) / 250000))) hx hb hr (fun t ht hW => ⟨(1024 + ((1024 * (500000 - p0)) / 250000)), rfl, (Or.inr (Or.inl ⟨c1, c2, c3, c4, rfl⟩)), ht⟩) (fun q hq => absurd hq List.not_mem_nil) dX5_cost_69
        · skip
          refine lv_iinc (v := 2) (lv' := [(1, .int 2), (0, .int p0)]) hx hb dX5_cost_34 hl (k := 0) rfl (by decide) (by decide) rfl (fun ls hl => ?_)
          refine lv_goto (tgt := 18) hx hb dX5_cost_37 (by decide) ?_
          refine lv_iload_n hx hb dX5_cost_18 rfl (lv_at hl 0 rfl) ?_
          refine lv_bipush (v := 19) hx hb dX5_cost_19 (by decide) ?_
          refine lv_icmp_ge (tgt := 40) hx hb dX5_cost_21 (by decide) (fun h => absurd h (by decide)) (fun _ => ?_)
          refine lv_iload_n hx hb dX5_cost_24 rfl (lv_at hl 1 rfl) ?_
          refine lv_ldc (v := 1000000) hx hb hown (hts _ wd329_X5_cost) dX5_cost_25 ?_
          refine lv_iload_n hx hb dX5_cost_27 rfl (lv_at hl 0 rfl) ?_
          refine lv_iconst (v := 1) hx hb dX5_cost_28 (by decide) ?_
          refine lv_iadd hx hb dX5_cost_29 ?_
          refine tpi (v := 3) (by decide) ?_
          refine lv_ishr hx hb dX5_cost_30 ?_
          refine tpi (v := 125000) (by decide) ?_
          refine lv_icmp_gt (tgt := 40) hx hb dX5_cost_31 (by decide) (fun c5 => ?_) (fun c5 => ?_)
          · skip
            refine lv_ldc (v := 1000000) hx hb hown (hts _ wd329_X5_cost) dX5_cost_40 ?_
            refine lv_iload_n hx hb dX5_cost_42 rfl (lv_at hl 0 rfl) ?_
            refine lv_ishr hx hb dX5_cost_43 ?_
            refine tpi (v := 250000) (by decide) ?_
            refine lv_istore_n (lv' := [(2, .int 250000), (1, .int 2), (0, .int p0)]) hx hb dX5_cost_44 rfl hl (by decide) rfl (fun ls hl => ?_)
            refine lv_ldc (v := 1000000) hx hb hown (hts _ wd329_X5_cost) dX5_cost_45 ?_
            refine lv_iload_n hx hb dX5_cost_47 rfl (lv_at hl 1 rfl) ?_
            refine lv_iconst (v := 1) hx hb dX5_cost_48 (by decide) ?_
            refine lv_iadd hx hb dX5_cost_49 ?_
            refine tpi (v := 3) (by decide) ?_
            refine lv_ishr hx hb dX5_cost_50 ?_
            refine tpi (v := 125000) (by decide) ?_
            refine lv_istore_n (lv' := [(3, .int 125000), (2, .int 250000), (1, .int 2), (0, .int p0)]) hx hb dX5_cost_51 rfl hl (by decide) rfl (fun ls hl => ?_)
            refine lv_sipush (v := 1024) hx hb dX5_cost_52 (by decide) ?_
            refine lv_iload_n hx hb dX5_cost_55 rfl (lv_at hl 2 rfl) ?_
            refine lv_imul hx hb dX5_cost_56 ?_
            refine tpi (v := 2048) (by decide) ?_
            refine lv_sipush (v := 1024) hx hb dX5_cost_57 (by decide) ?_
            refine lv_iload_n hx hb dX5_cost_60 rfl (lv_at hl 1 rfl) ?_
            refine lv_iload_n hx hb dX5_cost_61 rfl (lv_at hl 3 rfl) ?_
            refine lv_isub hx hb dX5_cost_62 ?_
            refine lv_imul hx hb dX5_cost_63 ?_
            refine lv_iload_n hx hb dX5_cost_64 rfl (lv_at hl 1 rfl) ?_
            refine lv_iload_n hx hb dX5_cost_65 rfl (lv_at hl 0 rfl) ?_
            refine lv_isub hx hb dX5_cost_66 ?_
            refine tpi (v := 125000) (by decide) ?_
            refine lv_idiv hx hb dX5_cost_67 (by decide) ?_
            refine lv_iadd hx hb dX5_cost_68 ?_
            exact W.iret (v := (2048 + ((1024 * (250000 - p0)) / 125000))) hx hb hr (fun t ht hW => ⟨(2048 + ((1024 * (250000 - p0)) / 125000)), rfl, (Or.inr (Or.inr (Or.inl ⟨c1, c2, c3, c4, c5, rfl⟩))), ht⟩) (fun q hq => absurd hq List.not_mem_nil) dX5_cost_69
          · skip
            refine lv_iinc (v := 3) (lv' := [(1, .int 3), (0, .int p0)]) hx hb dX5_cost_34 hl (k := 0) rfl (by decide) (by decide) rfl (fun ls hl => ?_)
            refine lv_goto (tgt := 18) hx hb dX5_cost_37 (by decide) ?_
            refine lv_iload_n hx hb dX5_cost_18 rfl (lv_at hl 0 rfl) ?_
            refine lv_bipush (v := 19) hx hb dX5_cost_19 (by decide) ?_
            refine lv_icmp_ge (tgt := 40) hx hb dX5_cost_21 (by decide) (fun h => absurd h (by decide)) (fun _ => ?_)
            refine lv_iload_n hx hb dX5_cost_24 rfl (lv_at hl 1 rfl) ?_
            refine lv_ldc (v := 1000000) hx hb hown (hts _ wd329_X5_cost) dX5_cost_25 ?_
            refine lv_iload_n hx hb dX5_cost_27 rfl (lv_at hl 0 rfl) ?_
            refine lv_iconst (v := 1) hx hb dX5_cost_28 (by decide) ?_
            refine lv_iadd hx hb dX5_cost_29 ?_
            refine tpi (v := 4) (by decide) ?_
            refine lv_ishr hx hb dX5_cost_30 ?_
            refine tpi (v := 62500) (by decide) ?_
            refine lv_icmp_gt (tgt := 40) hx hb dX5_cost_31 (by decide) (fun c6 => ?_) (fun c6 => ?_)
            · skip
              refine lv_ldc (v := 1000000) hx hb hown (hts _ wd329_X5_cost) dX5_cost_40 ?_
              refine lv_iload_n hx hb dX5_cost_42 rfl (lv_at hl 0 rfl) ?_
              refine lv_ishr hx hb dX5_cost_43 ?_
              refine tpi (v := 125000) (by decide) ?_
              refine lv_istore_n (lv' := [(2, .int 125000), (1, .int 3), (0, .int p0)]) hx hb dX5_cost_44 rfl hl (by decide) rfl (fun ls hl => ?_)
              refine lv_ldc (v := 1000000) hx hb hown (hts _ wd329_X5_cost) dX5_cost_45 ?_
              refine lv_iload_n hx hb dX5_cost_47 rfl (lv_at hl 1 rfl) ?_
              refine lv_iconst (v := 1) hx hb dX5_cost_48 (by decide) ?_
              refine lv_iadd hx hb dX5_cost_49 ?_
              refine tpi (v := 4) (by decide) ?_
              refine lv_ishr hx hb dX5_cost_50 ?_
              refine tpi (v := 62500) (by decide) ?_
              refine lv_istore_n (lv' := [(3, .int 62500), (2, .int 125000), (1, .int 3), (0, .int p0)]) hx hb dX5_cost_51 rfl hl (by decide) rfl (fun ls hl => ?_)
              refine lv_sipush (v := 1024) hx hb dX5_cost_52 (by decide) ?_
              refine lv_iload_n hx hb dX5_cost_55 rfl (lv_at hl 2 rfl) ?_
              refine lv_imul hx hb dX5_cost_56 ?_
              refine tpi (v := 3072) (by decide) ?_
              refine lv_sipush (v := 1024) hx hb dX5_cost_57 (by decide) ?_
              refine lv_iload_n hx hb dX5_cost_60 rfl (lv_at hl 1 rfl) ?_
              refine lv_iload_n hx hb dX5_cost_61 rfl (lv_at hl 3 rfl) ?_
              refine lv_isub hx hb dX5_cost_62 ?_
              refine lv_imul hx hb dX5_cost_63 ?_
              refine lv_iload_n hx hb dX5_cost_64 rfl (lv_at hl 1 rfl) ?_
              refine lv_iload_n hx hb dX5_cost_65 rfl (lv_at hl 0 rfl) ?_
              refine lv_isub hx hb dX5_cost_66 ?_
              refine tpi (v := 62500) (by decide) ?_
              refine lv_idiv hx hb dX5_cost_67 (by decide) ?_
              refine lv_iadd hx hb dX5_cost_68 ?_
              exact W.iret (v := (3072 + ((1024 * (125000 - p0)) / 62500))) hx hb hr (fun t ht hW => ⟨(3072 + ((1024 * (125000 - p0)) / 62500)), rfl, (Or.inr (Or.inr (Or.inr (Or.inl ⟨c1, c2, c3, c4, c5, c6, rfl⟩)))), ht⟩) (fun q hq => absurd hq List.not_mem_nil) dX5_cost_69
            · skip
              refine lv_iinc (v := 4) (lv' := [(1, .int 4), (0, .int p0)]) hx hb dX5_cost_34 hl (k := 0) rfl (by decide) (by decide) rfl (fun ls hl => ?_)
              refine lv_goto (tgt := 18) hx hb dX5_cost_37 (by decide) ?_
              refine lv_iload_n hx hb dX5_cost_18 rfl (lv_at hl 0 rfl) ?_
              refine lv_bipush (v := 19) hx hb dX5_cost_19 (by decide) ?_
              refine lv_icmp_ge (tgt := 40) hx hb dX5_cost_21 (by decide) (fun h => absurd h (by decide)) (fun _ => ?_)
              refine lv_iload_n hx hb dX5_cost_24 rfl (lv_at hl 1 rfl) ?_
              refine lv_ldc (v := 1000000) hx hb hown (hts _ wd329_X5_cost) dX5_cost_25 ?_
              refine lv_iload_n hx hb dX5_cost_27 rfl (lv_at hl 0 rfl) ?_
              refine lv_iconst (v := 1) hx hb dX5_cost_28 (by decide) ?_
              refine lv_iadd hx hb dX5_cost_29 ?_
              refine tpi (v := 5) (by decide) ?_
              refine lv_ishr hx hb dX5_cost_30 ?_
              refine tpi (v := 31250) (by decide) ?_
              refine lv_icmp_gt (tgt := 40) hx hb dX5_cost_31 (by decide) (fun c7 => ?_) (fun c7 => ?_)
              · skip
                refine lv_ldc (v := 1000000) hx hb hown (hts _ wd329_X5_cost) dX5_cost_40 ?_
                refine lv_iload_n hx hb dX5_cost_42 rfl (lv_at hl 0 rfl) ?_
                refine lv_ishr hx hb dX5_cost_43 ?_
                refine tpi (v := 62500) (by decide) ?_
                refine lv_istore_n (lv' := [(2, .int 62500), (1, .int 4), (0, .int p0)]) hx hb dX5_cost_44 rfl hl (by decide) rfl (fun ls hl => ?_)
                refine lv_ldc (v := 1000000) hx hb hown (hts _ wd329_X5_cost) dX5_cost_45 ?_
                refine lv_iload_n hx hb dX5_cost_47 rfl (lv_at hl 1 rfl) ?_
                refine lv_iconst (v := 1) hx hb dX5_cost_48 (by decide) ?_
                refine lv_iadd hx hb dX5_cost_49 ?_
                refine tpi (v := 5) (by decide) ?_
                refine lv_ishr hx hb dX5_cost_50 ?_
                refine tpi (v := 31250) (by decide) ?_
                refine lv_istore_n (lv' := [(3, .int 31250), (2, .int 62500), (1, .int 4), (0, .int p0)]) hx hb dX5_cost_51 rfl hl (by decide) rfl (fun ls hl => ?_)
                refine lv_sipush (v := 1024) hx hb dX5_cost_52 (by decide) ?_
                refine lv_iload_n hx hb dX5_cost_55 rfl (lv_at hl 2 rfl) ?_
                refine lv_imul hx hb dX5_cost_56 ?_
                refine tpi (v := 4096) (by decide) ?_
                refine lv_sipush (v := 1024) hx hb dX5_cost_57 (by decide) ?_
                refine lv_iload_n hx hb dX5_cost_60 rfl (lv_at hl 1 rfl) ?_
                refine lv_iload_n hx hb dX5_cost_61 rfl (lv_at hl 3 rfl) ?_
                refine lv_isub hx hb dX5_cost_62 ?_
                refine lv_imul hx hb dX5_cost_63 ?_
                refine lv_iload_n hx hb dX5_cost_64 rfl (lv_at hl 1 rfl) ?_
                refine lv_iload_n hx hb dX5_cost_65 rfl (lv_at hl 0 rfl) ?_
                refine lv_isub hx hb dX5_cost_66 ?_
                refine tpi (v := 31250) (by decide) ?_
                refine lv_idiv hx hb dX5_cost_67 (by decide) ?_
                refine lv_iadd hx hb dX5_cost_68 ?_
                exact W.iret (v := (4096 + ((1024 * (62500 - p0)) / 31250))) hx hb hr (fun t ht hW => ⟨(4096 + ((1024 * (62500 - p0)) / 31250)), rfl, (Or.inr (Or.inr (Or.inr (Or.inr (Or.inl ⟨c1, c2, c3, c4, c5, c6, c7, rfl⟩))))), ht⟩) (fun q hq => absurd hq List.not_mem_nil) dX5_cost_69
              · skip
                refine lv_iinc (v := 5) (lv' := [(1, .int 5), (0, .int p0)]) hx hb dX5_cost_34 hl (k := 0) rfl (by decide) (by decide) rfl (fun ls hl => ?_)
                refine lv_goto (tgt := 18) hx hb dX5_cost_37 (by decide) ?_
                refine lv_iload_n hx hb dX5_cost_18 rfl (lv_at hl 0 rfl) ?_
                refine lv_bipush (v := 19) hx hb dX5_cost_19 (by decide) ?_
                refine lv_icmp_ge (tgt := 40) hx hb dX5_cost_21 (by decide) (fun h => absurd h (by decide)) (fun _ => ?_)
                refine lv_iload_n hx hb dX5_cost_24 rfl (lv_at hl 1 rfl) ?_
                refine lv_ldc (v := 1000000) hx hb hown (hts _ wd329_X5_cost) dX5_cost_25 ?_
                refine lv_iload_n hx hb dX5_cost_27 rfl (lv_at hl 0 rfl) ?_
                refine lv_iconst (v := 1) hx hb dX5_cost_28 (by decide) ?_
                refine lv_iadd hx hb dX5_cost_29 ?_
                refine tpi (v := 6) (by decide) ?_
                refine lv_ishr hx hb dX5_cost_30 ?_
                refine tpi (v := 15625) (by decide) ?_
                refine lv_icmp_gt (tgt := 40) hx hb dX5_cost_31 (by decide) (fun c8 => ?_) (fun c8 => ?_)
                · skip
                  refine lv_ldc (v := 1000000) hx hb hown (hts _ wd329_X5_cost) dX5_cost_40 ?_
                  refine lv_iload_n hx hb dX5_cost_42 rfl (lv_at hl 0 rfl) ?_
                  refine lv_ishr hx hb dX5_cost_43 ?_
                  refine tpi (v := 31250) (by decide) ?_
                  refine lv_istore_n (lv' := [(2, .int 31250), (1, .int 5), (0, .int p0)]) hx hb dX5_cost_44 rfl hl (by decide) rfl (fun ls hl => ?_)
                  refine lv_ldc (v := 1000000) hx hb hown (hts _ wd329_X5_cost) dX5_cost_45 ?_
                  refine lv_iload_n hx hb dX5_cost_47 rfl (lv_at hl 1 rfl) ?_
                  refine lv_iconst (v := 1) hx hb dX5_cost_48 (by decide) ?_
                  refine lv_iadd hx hb dX5_cost_49 ?_
                  refine tpi (v := 6) (by decide) ?_
                  refine lv_ishr hx hb dX5_cost_50 ?_
                  refine tpi (v := 15625) (by decide) ?_
                  refine lv_istore_n (lv' := [(3, .int 15625), (2, .int 31250), (1, .int 5), (0, .int p0)]) hx hb dX5_cost_51 rfl hl (by decide) rfl (fun ls hl => ?_)
                  refine lv_sipush (v := 1024) hx hb dX5_cost_52 (by decide) ?_
                  refine lv_iload_n hx hb dX5_cost_55 rfl (lv_at hl 2 rfl) ?_
                  refine lv_imul hx hb dX5_cost_56 ?_
                  refine tpi (v := 5120) (by decide) ?_
                  refine lv_sipush (v := 1024) hx hb dX5_cost_57 (by decide) ?_
                  refine lv_iload_n hx hb dX5_cost_60 rfl (lv_at hl 1 rfl) ?_
                  refine lv_iload_n hx hb dX5_cost_61 rfl (lv_at hl 3 rfl) ?_
                  refine lv_isub hx hb dX5_cost_62 ?_
                  refine lv_imul hx hb dX5_cost_63 ?_
                  refine lv_iload_n hx hb dX5_cost_64 rfl (lv_at hl 1 rfl) ?_
                  refine lv_iload_n hx hb dX5_cost_65 rfl (lv_at hl 0 rfl) ?_
                  refine lv_isub hx hb dX5_cost_66 ?_
                  refine tpi (v := 15625) (by decide) ?_
                  refine lv_idiv hx hb dX5_cost_67 (by decide) ?_
                  refine lv_iadd hx hb dX5_cost_68 ?_
                  exact W.iret (v := (5120 + ((1024 * (31250 - p0)) / 15625))) hx hb hr (fun t ht hW => ⟨(5120 + ((1024 * (31250 - p0)) / 15625)), rfl, (Or.inr (Or.inr (Or.inr (Or.inr (Or.inr (Or.inl ⟨c1, c2, c3, c4, c5, c6, c7, c8, rfl⟩)))))), ht⟩) (fun q hq => absurd hq List.not_mem_nil) dX5_cost_69
                · skip
                  refine lv_iinc (v := 6) (lv' := [(1, .int 6), (0, .int p0)]) hx hb dX5_cost_34 hl (k := 0) rfl (by decide) (by decide) rfl (fun ls hl => ?_)
                  refine lv_goto (tgt := 18) hx hb dX5_cost_37 (by decide) ?_
                  refine lv_iload_n hx hb dX5_cost_18 rfl (lv_at hl 0 rfl) ?_
                  refine lv_bipush (v := 19) hx hb dX5_cost_19 (by decide) ?_
                  refine lv_icmp_ge (tgt := 40) hx hb dX5_cost_21 (by decide) (fun h => absurd h (by decide)) (fun _ => ?_)
                  refine lv_iload_n hx hb dX5_cost_24 rfl (lv_at hl 1 rfl) ?_
                  refine lv_ldc (v := 1000000) hx hb hown (hts _ wd329_X5_cost) dX5_cost_25 ?_
                  refine lv_iload_n hx hb dX5_cost_27 rfl (lv_at hl 0 rfl) ?_
                  refine lv_iconst (v := 1) hx hb dX5_cost_28 (by decide) ?_
                  refine lv_iadd hx hb dX5_cost_29 ?_
                  refine tpi (v := 7) (by decide) ?_
                  refine lv_ishr hx hb dX5_cost_30 ?_
                  refine tpi (v := 7812) (by decide) ?_
                  refine lv_icmp_gt (tgt := 40) hx hb dX5_cost_31 (by decide) (fun c9 => ?_) (fun c9 => ?_)
                  · skip
                    refine lv_ldc (v := 1000000) hx hb hown (hts _ wd329_X5_cost) dX5_cost_40 ?_
                    refine lv_iload_n hx hb dX5_cost_42 rfl (lv_at hl 0 rfl) ?_
                    refine lv_ishr hx hb dX5_cost_43 ?_
                    refine tpi (v := 15625) (by decide) ?_
                    refine lv_istore_n (lv' := [(2, .int 15625), (1, .int 6), (0, .int p0)]) hx hb dX5_cost_44 rfl hl (by decide) rfl (fun ls hl => ?_)
                    refine lv_ldc (v := 1000000) hx hb hown (hts _ wd329_X5_cost) dX5_cost_45 ?_
                    refine lv_iload_n hx hb dX5_cost_47 rfl (lv_at hl 1 rfl) ?_
                    refine lv_iconst (v := 1) hx hb dX5_cost_48 (by decide) ?_
                    refine lv_iadd hx hb dX5_cost_49 ?_
                    refine tpi (v := 7) (by decide) ?_
                    refine lv_ishr hx hb dX5_cost_50 ?_
                    refine tpi (v := 7812) (by decide) ?_
                    refine lv_istore_n (lv' := [(3, .int 7812), (2, .int 15625), (1, .int 6), (0, .int p0)]) hx hb dX5_cost_51 rfl hl (by decide) rfl (fun ls hl => ?_)
                    refine lv_sipush (v := 1024) hx hb dX5_cost_52 (by decide) ?_
                    refine lv_iload_n hx hb dX5_cost_55 rfl (lv_at hl 2 rfl) ?_
                    refine lv_imul hx hb dX5_cost_56 ?_
                    refine tpi (v := 6144) (by decide) ?_
                    refine lv_sipush (v := 1024) hx hb dX5_cost_57 (by decide) ?_
                    refine lv_iload_n hx hb dX5_cost_60 rfl (lv_at hl 1 rfl) ?_
                    refine lv_iload_n hx hb dX5_cost_61 rfl (lv_at hl 3 rfl) ?_
                    refine lv_isub hx hb dX5_cost_62 ?_
                    refine lv_imul hx hb dX5_cost_63 ?_
                    refine lv_iload_n hx hb dX5_cost_64 rfl (lv_at hl 1 rfl) ?_
                    refine lv_iload_n hx hb dX5_cost_65 rfl (lv_at hl 0 rfl) ?_
                    refine lv_isub hx hb dX5_cost_66 ?_
                    refine tpi (v := 7813) (by decide) ?_
                    refine lv_idiv hx hb dX5_cost_67 (by decide) ?_
                    refine lv_iadd hx hb dX5_cost_68 ?_
                    exact W.iret (v := (6144 + ((1024 * (15625 - p0)) / 7813))) hx hb hr (fun t ht hW => ⟨(6144 + ((1024 * (15625 - p0)) / 7813)), rfl, (Or.inr (Or.inr (Or.inr (Or.inr (Or.inr (Or.inr (Or.inl ⟨c1, c2, c3, c4, c5, c6, c7, c8, c9, rfl⟩))))))), ht⟩) (fun q hq => absurd hq List.not_mem_nil) dX5_cost_69
                  · skip
                    refine lv_iinc (v := 7) (lv' := [(1, .int 7), (0, .int p0)]) hx hb dX5_cost_34 hl (k := 0) rfl (by decide) (by decide) rfl (fun ls hl => ?_)
                    refine lv_goto (tgt := 18) hx hb dX5_cost_37 (by decide) ?_
                    refine lv_iload_n hx hb dX5_cost_18 rfl (lv_at hl 0 rfl) ?_
                    refine lv_bipush (v := 19) hx hb dX5_cost_19 (by decide) ?_
                    refine lv_icmp_ge (tgt := 40) hx hb dX5_cost_21 (by decide) (fun h => absurd h (by decide)) (fun _ => ?_)
                    refine lv_iload_n hx hb dX5_cost_24 rfl (lv_at hl 1 rfl) ?_
                    refine lv_ldc (v := 1000000) hx hb hown (hts _ wd329_X5_cost) dX5_cost_25 ?_
                    refine lv_iload_n hx hb dX5_cost_27 rfl (lv_at hl 0 rfl) ?_
                    refine lv_iconst (v := 1) hx hb dX5_cost_28 (by decide) ?_
                    refine lv_iadd hx hb dX5_cost_29 ?_
                    refine tpi (v := 8) (by decide) ?_
                    refine lv_ishr hx hb dX5_cost_30 ?_
                    refine tpi (v := 3906) (by decide) ?_
                    refine lv_icmp_gt (tgt := 40) hx hb dX5_cost_31 (by decide) (fun c10 => ?_) (fun c10 => ?_)
                    · skip
                      refine lv_ldc (v := 1000000) hx hb hown (hts _ wd329_X5_cost) dX5_cost_40 ?_
                      refine lv_iload_n hx hb dX5_cost_42 rfl (lv_at hl 0 rfl) ?_
                      refine lv_ishr hx hb dX5_cost_43 ?_
                      refine tpi (v := 7812) (by decide) ?_
                      refine lv_istore_n (lv' := [(2, .int 7812), (1, .int 7), (0, .int p0)]) hx hb dX5_cost_44 rfl hl (by decide) rfl (fun ls hl => ?_)
                      refine lv_ldc (v := 1000000) hx hb hown (hts _ wd329_X5_cost) dX5_cost_45 ?_
                      refine lv_iload_n hx hb dX5_cost_47 rfl (lv_at hl 1 rfl) ?_
                      refine lv_iconst (v := 1) hx hb dX5_cost_48 (by decide) ?_
                      refine lv_iadd hx hb dX5_cost_49 ?_
                      refine tpi (v := 8) (by decide) ?_
                      refine lv_ishr hx hb dX5_cost_50 ?_
                      refine tpi (v := 3906) (by decide) ?_
                      refine lv_istore_n (lv' := [(3, .int 3906), (2, .int 7812), (1, .int 7), (0, .int p0)]) hx hb dX5_cost_51 rfl hl (by decide) rfl (fun ls hl => ?_)
                      refine lv_sipush (v := 1024) hx hb dX5_cost_52 (by decide) ?_
                      refine lv_iload_n hx hb dX5_cost_55 rfl (lv_at hl 2 rfl) ?_
                      refine lv_imul hx hb dX5_cost_56 ?_
                      refine tpi (v := 7168) (by decide) ?_
                      refine lv_sipush (v := 1024) hx hb dX5_cost_57 (by decide) ?_
                      refine lv_iload_n hx hb dX5_cost_60 rfl (lv_at hl 1 rfl) ?_
                      refine lv_iload_n hx hb dX5_cost_61 rfl (lv_at hl 3 rfl) ?_
                      refine lv_isub hx hb dX5_cost_62 ?_
                      refine lv_imul hx hb dX5_cost_63 ?_
                      refine lv_iload_n hx hb dX5_cost_64 rfl (lv_at hl 1 rfl) ?_
                      refine lv_iload_n hx hb dX5_cost_65 rfl (lv_at hl 0 rfl) ?_
                      refine lv_isub hx hb dX5_cost_66 ?_
                      refine tpi (v := 3906) (by decide) ?_
                      refine lv_idiv hx hb dX5_cost_67 (by decide) ?_
                      refine lv_iadd hx hb dX5_cost_68 ?_
                      exact W.iret (v := (7168 + ((1024 * (7812 - p0)) / 3906))) hx hb hr (fun t ht hW => ⟨(7168 + ((1024 * (7812 - p0)) / 3906)), rfl, (Or.inr (Or.inr (Or.inr (Or.inr (Or.inr (Or.inr (Or.inr (Or.inl ⟨c1, c2, c3, c4, c5, c6, c7, c8, c9, c10, rfl⟩)))))))), ht⟩) (fun q hq => absurd hq List.not_mem_nil) dX5_cost_69
                    · skip
                      refine lv_iinc (v := 8) (lv' := [(1, .int 8), (0, .int p0)]) hx hb dX5_cost_34 hl (k := 0) rfl (by decide) (by decide) rfl (fun ls hl => ?_)
                      refine lv_goto (tgt := 18) hx hb dX5_cost_37 (by decide) ?_
                      refine lv_iload_n hx hb dX5_cost_18 rfl (lv_at hl 0 rfl) ?_
                      refine lv_bipush (v := 19) hx hb dX5_cost_19 (by decide) ?_
                      refine lv_icmp_ge (tgt := 40) hx hb dX5_cost_21 (by decide) (fun h => absurd h (by decide)) (fun _ => ?_)
                      refine lv_iload_n hx hb dX5_cost_24 rfl (lv_at hl 1 rfl) ?_
                      refine lv_ldc (v := 1000000) hx hb hown (hts _ wd329_X5_cost) dX5_cost_25 ?_
                      refine lv_iload_n hx hb dX5_cost_27 rfl (lv_at hl 0 rfl) ?_
                      refine lv_iconst (v := 1) hx hb dX5_cost_28 (by decide) ?_
                      refine lv_iadd hx hb dX5_cost_29 ?_
                      refine tpi (v := 9) (by decide) ?_
                      refine lv_ishr hx hb dX5_cost_30 ?_
                      refine tpi (v := 1953) (by decide) ?_
                      refine lv_icmp_gt (tgt := 40) hx hb dX5_cost_31 (by decide) (fun c11 => ?_) (fun c11 => ?_)
                      · skip
                        refine lv_ldc (v := 1000000) hx hb hown (hts _ wd329_X5_cost) dX5_cost_40 ?_
                        refine lv_iload_n hx hb dX5_cost_42 rfl (lv_at hl 0 rfl) ?_
                        refine lv_ishr hx hb dX5_cost_43 ?_
                        refine tpi (v := 3906) (by decide) ?_
                        refine lv_istore_n (lv' := [(2, .int 3906), (1, .int 8), (0, .int p0)]) hx hb dX5_cost_44 rfl hl (by decide) rfl (fun ls hl => ?_)
                        refine lv_ldc (v := 1000000) hx hb hown (hts _ wd329_X5_cost) dX5_cost_45 ?_
                        refine lv_iload_n hx hb dX5_cost_47 rfl (lv_at hl 1 rfl) ?_
                        refine lv_iconst (v := 1) hx hb dX5_cost_48 (by decide) ?_
                        refine lv_iadd hx hb dX5_cost_49 ?_
                        refine tpi (v := 9) (by decide) ?_
                        refine lv_ishr hx hb dX5_cost_50 ?_
                        refine tpi (v := 1953) (by decide) ?_
                        refine lv_istore_n (lv' := [(3, .int 1953), (2, .int 3906), (1, .int 8), (0, .int p0)]) hx hb dX5_cost_51 rfl hl (by decide) rfl (fun ls hl => ?_)
                        refine lv_sipush (v := 1024) hx hb dX5_cost_52 (by decide) ?_
                        refine lv_iload_n hx hb dX5_cost_55 rfl (lv_at hl 2 rfl) ?_
                        refine lv_imul hx hb dX5_cost_56 ?_
                        refine tpi (v := 8192) (by decide) ?_
                        refine lv_sipush (v := 1024) hx hb dX5_cost_57 (by decide) ?_
                        refine lv_iload_n hx hb dX5_cost_60 rfl (lv_at hl 1 rfl) ?_
                        refine lv_iload_n hx hb dX5_cost_61 rfl (lv_at hl 3 rfl) ?_
                        refine lv_isub hx hb dX5_cost_62 ?_
                        refine lv_imul hx hb dX5_cost_63 ?_
                        refine lv_iload_n hx hb dX5_cost_64 rfl (lv_at hl 1 rfl) ?_
                        refine lv_iload_n hx hb dX5_cost_65 rfl (lv_at hl 0 rfl) ?_
                        refine lv_isub hx hb dX5_cost_66 ?_
                        refine tpi (v := 1953) (by decide) ?_
                        refine lv_idiv hx hb dX5_cost_67 (by decide) ?_
                        refine lv_iadd hx hb dX5_cost_68 ?_
                        exact W.iret (v := (8192 + ((1024 * (3906 - p0)) / 1953))) hx hb hr (fun t ht hW => ⟨(8192 + ((1024 * (3906 - p0)) / 1953)), rfl, (Or.inr (Or.inr (Or.inr (Or.inr (Or.inr (Or.inr (Or.inr (Or.inr (Or.inl ⟨c1, c2, c3, c4, c5, c6, c7, c8, c9, c10, c11, rfl⟩))))))))), ht⟩) (fun q hq => absurd hq List.not_mem_nil) dX5_cost_69
                      · skip
                        refine lv_iinc (v := 9) (lv' := [(1, .int 9), (0, .int p0)]) hx hb dX5_cost_34 hl (k := 0) rfl (by decide) (by decide) rfl (fun ls hl => ?_)
                        refine lv_goto (tgt := 18) hx hb dX5_cost_37 (by decide) ?_
                        refine lv_iload_n hx hb dX5_cost_18 rfl (lv_at hl 0 rfl) ?_
                        refine lv_bipush (v := 19) hx hb dX5_cost_19 (by decide) ?_
                        refine lv_icmp_ge (tgt := 40) hx hb dX5_cost_21 (by decide) (fun h => absurd h (by decide)) (fun _ => ?_)
                        refine lv_iload_n hx hb dX5_cost_24 rfl (lv_at hl 1 rfl) ?_
                        refine lv_ldc (v := 1000000) hx hb hown (hts _ wd329_X5_cost) dX5_cost_25 ?_
                        refine lv_iload_n hx hb dX5_cost_27 rfl (lv_at hl 0 rfl) ?_
                        refine lv_iconst (v := 1) hx hb dX5_cost_28 (by decide) ?_
                        refine lv_iadd hx hb dX5_cost_29 ?_
                        refine tpi (v := 10) (by decide) ?_
                        refine lv_ishr hx hb dX5_cost_30 ?_
                        refine tpi (v := 976) (by decide) ?_
                        refine lv_icmp_gt (tgt := 40) hx hb dX5_cost_31 (by decide) (fun c12 => ?_) (fun c12 => ?_)
                        · skip
                          refine lv_ldc (v := 1000000) hx hb hown (hts _ wd329_X5_cost) dX5_cost_40 ?_
                          refine lv_iload_n hx hb dX5_cost_42 rfl (lv_at hl 0 rfl) ?_
                          refine lv_ishr hx hb dX5_cost_43 ?_
                          refine tpi (v := 1953) (by decide) ?_
                          refine lv_istore_n (lv' := [(2, .int 1953), (1, .int 9), (0, .int p0)]) hx hb dX5_cost_44 rfl hl (by decide) rfl (fun ls hl => ?_)
                          refine lv_ldc (v := 1000000) hx hb hown (hts _ wd329_X5_cost) dX5_cost_45 ?_
                          refine lv_iload_n hx hb dX5_cost_47 rfl (lv_at hl 1 rfl) ?_
                          refine lv_iconst (v := 1) hx hb dX5_cost_48 (by decide) ?_
                          refine lv_iadd hx hb dX5_cost_49 ?_
                          refine tpi (v := 10) (by decide) ?_
                          refine lv_ishr hx hb dX5_cost_50 ?_
                          refine tpi (v := 976) (by decide) ?_
                          refine lv_istore_n (lv' := [(3, .int 976), (2, .int 1953), (1, .int 9), (0, .int p0)]) hx hb dX5_cost_51 rfl hl (by decide) rfl (fun ls hl => ?_)
                          refine lv_sipush (v := 1024) hx hb dX5_cost_52 (by decide) ?_
                          refine lv_iload_n hx hb dX5_cost_55 rfl (lv_at hl 2 rfl) ?_
                          refine lv_imul hx hb dX5_cost_56 ?_
                          refine tpi (v := 9216) (by decide) ?_
                          refine lv_sipush (v := 1024) hx hb dX5_cost_57 (by decide) ?_
                          refine lv_iload_n hx hb dX5_cost_60 rfl (lv_at hl 1 rfl) ?_
                          refine lv_iload_n hx hb dX5_cost_61 rfl (lv_at hl 3 rfl) ?_
                          refine lv_isub hx hb dX5_cost_62 ?_
                          refine lv_imul hx hb dX5_cost_63 ?_
                          refine lv_iload_n hx hb dX5_cost_64 rfl (lv_at hl 1 rfl) ?_
                          refine lv_iload_n hx hb dX5_cost_65 rfl (lv_at hl 0 rfl) ?_
                          refine lv_isub hx hb dX5_cost_66 ?_
                          refine tpi (v := 977) (by decide) ?_
                          refine lv_idiv hx hb dX5_cost_67 (by decide) ?_
                          refine lv_iadd hx hb dX5_cost_68 ?_
                          exact W.iret (v := (9216 + ((1024 * (1953 - p0)) / 977))) hx hb hr (fun t ht hW => ⟨(9216 + ((1024 * (1953 - p0)) / 977)), rfl, (Or.inr (Or.inr (Or.inr (Or.inr (Or.inr (Or.inr (Or.inr (Or.inr (Or.inr (Or.inl ⟨c1, c2, c3, c4, c5, c6, c7, c8, c9, c10, c11, c12, rfl⟩)))))))))), ht⟩) (fun q hq => absurd hq List.not_mem_nil) dX5_cost_69
                        · skip
                          refine lv_iinc (v := 10) (lv' := [(1, .int 10), (0, .int p0)]) hx hb dX5_cost_34 hl (k := 0) rfl (by decide) (by decide) rfl (fun ls hl => ?_)
                          refine lv_goto (tgt := 18) hx hb dX5_cost_37 (by decide) ?_
                          refine lv_iload_n hx hb dX5_cost_18 rfl (lv_at hl 0 rfl) ?_
                          refine lv_bipush (v := 19) hx hb dX5_cost_19 (by decide) ?_
                          refine lv_icmp_ge (tgt := 40) hx hb dX5_cost_21 (by decide) (fun h => absurd h (by decide)) (fun _ => ?_)
                          refine lv_iload_n hx hb dX5_cost_24 rfl (lv_at hl 1 rfl) ?_
                          refine lv_ldc (v := 1000000) hx hb hown (hts _ wd329_X5_cost) dX5_cost_25 ?_
                          refine lv_iload_n hx hb dX5_cost_27 rfl (lv_at hl 0 rfl) ?_
                          refine lv_iconst (v := 1) hx hb dX5_cost_28 (by decide) ?_
                          refine lv_iadd hx hb dX5_cost_29 ?_
                          refine tpi (v := 11) (by decide) ?_
                          refine lv_ishr hx hb dX5_cost_30 ?_
                          refine tpi (v := 488) (by decide) ?_
                          refine lv_icmp_gt (tgt := 40) hx hb dX5_cost_31 (by decide) (fun c13 => ?_) (fun c13 => ?_)
                          · skip
                            refine lv_ldc (v := 1000000) hx hb hown (hts _ wd329_X5_cost) dX5_cost_40 ?_
                            refine lv_iload_n hx hb dX5_cost_42 rfl (lv_at hl 0 rfl) ?_
                            refine lv_ishr hx hb dX5_cost_43 ?_
                            refine tpi (v := 976) (by decide) ?_
                            refine lv_istore_n (lv' := [(2, .int 976), (1, .int 10), (0, .int p0)]) hx hb dX5_cost_44 rfl hl (by decide) rfl (fun ls hl => ?_)
                            refine lv_ldc (v := 1000000) hx hb hown (hts _ wd329_X5_cost) dX5_cost_45 ?_
                            refine lv_iload_n hx hb dX5_cost_47 rfl (lv_at hl 1 rfl) ?_
                            refine lv_iconst (v := 1) hx hb dX5_cost_48 (by decide) ?_
                            refine lv_iadd hx hb dX5_cost_49 ?_
                            refine tpi (v := 11) (by decide) ?_
                            refine lv_ishr hx hb dX5_cost_50 ?_
                            refine tpi (v := 488) (by decide) ?_
                            refine lv_istore_n (lv' := [(3, .int 488), (2, .int 976), (1, .int 10), (0, .int p0)]) hx hb dX5_cost_51 rfl hl (by decide) rfl (fun ls hl => ?_)
                            refine lv_sipush (v := 1024) hx hb dX5_cost_52 (by decide) ?_
                            refine lv_iload_n hx hb dX5_cost_55 rfl (lv_at hl 2 rfl) ?_
                            refine lv_imul hx hb dX5_cost_56 ?_
                            refine tpi (v := 10240) (by decide) ?_
                            refine lv_sipush (v := 1024) hx hb dX5_cost_57 (by decide) ?_
                            refine lv_iload_n hx hb dX5_cost_60 rfl (lv_at hl 1 rfl) ?_
                            refine lv_iload_n hx hb dX5_cost_61 rfl (lv_at hl 3 rfl) ?_
                            refine lv_isub hx hb dX5_cost_62 ?_
                            refine lv_imul hx hb dX5_cost_63 ?_
                            refine lv_iload_n hx hb dX5_cost_64 rfl (lv_at hl 1 rfl) ?_
                            refine lv_iload_n hx hb dX5_cost_65 rfl (lv_at hl 0 rfl) ?_
                            refine lv_isub hx hb dX5_cost_66 ?_
                            refine tpi (v := 488) (by decide) ?_
                            refine lv_idiv hx hb dX5_cost_67 (by decide) ?_
                            refine lv_iadd hx hb dX5_cost_68 ?_
                            exact W.iret (v := (10240 + ((1024 * (976 - p0)) / 488))) hx hb hr (fun t ht hW => ⟨(10240 + ((1024 * (976 - p0)) / 488)), rfl, (Or.inr (Or.inr (Or.inr (Or.inr (Or.inr (Or.inr (Or.inr (Or.inr (Or.inr (Or.inr (Or.inl ⟨c1, c2, c3, c4, c5, c6, c7, c8, c9, c10, c11, c12, c13, rfl⟩))))))))))), ht⟩) (fun q hq => absurd hq List.not_mem_nil) dX5_cost_69
                          · skip
                            refine lv_iinc (v := 11) (lv' := [(1, .int 11), (0, .int p0)]) hx hb dX5_cost_34 hl (k := 0) rfl (by decide) (by decide) rfl (fun ls hl => ?_)
                            refine lv_goto (tgt := 18) hx hb dX5_cost_37 (by decide) ?_
                            refine lv_iload_n hx hb dX5_cost_18 rfl (lv_at hl 0 rfl) ?_
                            refine lv_bipush (v := 19) hx hb dX5_cost_19 (by decide) ?_
                            refine lv_icmp_ge (tgt := 40) hx hb dX5_cost_21 (by decide) (fun h => absurd h (by decide)) (fun _ => ?_)
                            refine lv_iload_n hx hb dX5_cost_24 rfl (lv_at hl 1 rfl) ?_
                            refine lv_ldc (v := 1000000) hx hb hown (hts _ wd329_X5_cost) dX5_cost_25 ?_
                            refine lv_iload_n hx hb dX5_cost_27 rfl (lv_at hl 0 rfl) ?_
                            refine lv_iconst (v := 1) hx hb dX5_cost_28 (by decide) ?_
                            refine lv_iadd hx hb dX5_cost_29 ?_
                            refine tpi (v := 12) (by decide) ?_
                            refine lv_ishr hx hb dX5_cost_30 ?_
                            refine tpi (v := 244) (by decide) ?_
                            refine lv_icmp_gt (tgt := 40) hx hb dX5_cost_31 (by decide) (fun c14 => ?_) (fun c14 => ?_)
                            · skip
                              refine lv_ldc (v := 1000000) hx hb hown (hts _ wd329_X5_cost) dX5_cost_40 ?_
                              refine lv_iload_n hx hb dX5_cost_42 rfl (lv_at hl 0 rfl) ?_
                              refine lv_ishr hx hb dX5_cost_43 ?_
                              refine tpi (v := 488) (by decide) ?_
                              refine lv_istore_n (lv' := [(2, .int 488), (1, .int 11), (0, .int p0)]) hx hb dX5_cost_44 rfl hl (by decide) rfl (fun ls hl => ?_)
                              refine lv_ldc (v := 1000000) hx hb hown (hts _ wd329_X5_cost) dX5_cost_45 ?_
                              refine lv_iload_n hx hb dX5_cost_47 rfl (lv_at hl 1 rfl) ?_
                              refine lv_iconst (v := 1) hx hb dX5_cost_48 (by decide) ?_
                              refine lv_iadd hx hb dX5_cost_49 ?_
                              refine tpi (v := 12) (by decide) ?_
                              refine lv_ishr hx hb dX5_cost_50 ?_
                              refine tpi (v := 244) (by decide) ?_
                              refine lv_istore_n (lv' := [(3, .int 244), (2, .int 488), (1, .int 11), (0, .int p0)]) hx hb dX5_cost_51 rfl hl (by decide) rfl (fun ls hl => ?_)
                              refine lv_sipush (v := 1024) hx hb dX5_cost_52 (by decide) ?_
                              refine lv_iload_n hx hb dX5_cost_55 rfl (lv_at hl 2 rfl) ?_
                              refine lv_imul hx hb dX5_cost_56 ?_
                              refine tpi (v := 11264) (by decide) ?_
                              refine lv_sipush (v := 1024) hx hb dX5_cost_57 (by decide) ?_
                              refine lv_iload_n hx hb dX5_cost_60 rfl (lv_at hl 1 rfl) ?_
                              refine lv_iload_n hx hb dX5_cost_61 rfl (lv_at hl 3 rfl) ?_
                              refine lv_isub hx hb dX5_cost_62 ?_
                              refine lv_imul hx hb dX5_cost_63 ?_
                              refine lv_iload_n hx hb dX5_cost_64 rfl (lv_at hl 1 rfl) ?_
                              refine lv_iload_n hx hb dX5_cost_65 rfl (lv_at hl 0 rfl) ?_
                              refine lv_isub hx hb dX5_cost_66 ?_
                              refine tpi (v := 244) (by decide) ?_
                              refine lv_idiv hx hb dX5_cost_67 (by decide) ?_
                              refine lv_iadd hx hb dX5_cost_68 ?_
                              exact W.iret (v := (11264 + ((1024 * (488 - p0)) / 244))) hx hb hr (fun t ht hW => ⟨(11264 + ((1024 * (488 - p0)) / 244)), rfl, (Or.inr (Or.inr (Or.inr (Or.inr (Or.inr (Or.inr (Or.inr (Or.inr (Or.inr (Or.inr (Or.inr (Or.inl ⟨c1, c2, c3, c4, c5, c6, c7, c8, c9, c10, c11, c12, c13, c14, rfl⟩)))))))))))), ht⟩) (fun q hq => absurd hq List.not_mem_nil) dX5_cost_69
                            · skip
                              refine lv_iinc (v := 12) (lv' := [(1, .int 12), (0, .int p0)]) hx hb dX5_cost_34 hl (k := 0) rfl (by decide) (by decide) rfl (fun ls hl => ?_)
                              refine lv_goto (tgt := 18) hx hb dX5_cost_37 (by decide) ?_
                              refine lv_iload_n hx hb dX5_cost_18 rfl (lv_at hl 0 rfl) ?_
                              refine lv_bipush (v := 19) hx hb dX5_cost_19 (by decide) ?_
                              refine lv_icmp_ge (tgt := 40) hx hb dX5_cost_21 (by decide) (fun h => absurd h (by decide)) (fun _ => ?_)
                              refine lv_iload_n hx hb dX5_cost_24 rfl (lv_at hl 1 rfl) ?_
                              refine lv_ldc (v := 1000000) hx hb hown (hts _ wd329_X5_cost) dX5_cost_25 ?_
                              refine lv_iload_n hx hb dX5_cost_27 rfl (lv_at hl 0 rfl) ?_
                              refine lv_iconst (v := 1) hx hb dX5_cost_28 (by decide) ?_
                              refine lv_iadd hx hb dX5_cost_29 ?_
                              refine tpi (v := 13) (by decide) ?_
                              refine lv_ishr hx hb dX5_cost_30 ?_
                              refine tpi (v := 122) (by decide) ?_
                              refine lv_icmp_gt (tgt := 40) hx hb dX5_cost_31 (by decide) (fun c15 => ?_) (fun c15 => ?_)
                              · skip
                                refine lv_ldc (v := 1000000) hx hb hown (hts _ wd329_X5_cost) dX5_cost_40 ?_
                                refine lv_iload_n hx hb dX5_cost_42 rfl (lv_at hl 0 rfl) ?_
                                refine lv_ishr hx hb dX5_cost_43 ?_
                                refine tpi (v := 244) (by decide) ?_
                                refine lv_istore_n (lv' := [(2, .int 244), (1, .int 12), (0, .int p0)]) hx hb dX5_cost_44 rfl hl (by decide) rfl (fun ls hl => ?_)
                                refine lv_ldc (v := 1000000) hx hb hown (hts _ wd329_X5_cost) dX5_cost_45 ?_
                                refine lv_iload_n hx hb dX5_cost_47 rfl (lv_at hl 1 rfl) ?_
                                refine lv_iconst (v := 1) hx hb dX5_cost_48 (by decide) ?_
                                refine lv_iadd hx hb dX5_cost_49 ?_
                                refine tpi (v := 13) (by decide) ?_
                                refine lv_ishr hx hb dX5_cost_50 ?_
                                refine tpi (v := 122) (by decide) ?_
                                refine lv_istore_n (lv' := [(3, .int 122), (2, .int 244), (1, .int 12), (0, .int p0)]) hx hb dX5_cost_51 rfl hl (by decide) rfl (fun ls hl => ?_)
                                refine lv_sipush (v := 1024) hx hb dX5_cost_52 (by decide) ?_
                                refine lv_iload_n hx hb dX5_cost_55 rfl (lv_at hl 2 rfl) ?_
                                refine lv_imul hx hb dX5_cost_56 ?_
                                refine tpi (v := 12288) (by decide) ?_
                                refine lv_sipush (v := 1024) hx hb dX5_cost_57 (by decide) ?_
                                refine lv_iload_n hx hb dX5_cost_60 rfl (lv_at hl 1 rfl) ?_
                                refine lv_iload_n hx hb dX5_cost_61 rfl (lv_at hl 3 rfl) ?_
                                refine lv_isub hx hb dX5_cost_62 ?_
                                refine lv_imul hx hb dX5_cost_63 ?_
                                refine lv_iload_n hx hb dX5_cost_64 rfl (lv_at hl 1 rfl) ?_
                                refine lv_iload_n hx hb dX5_cost_65 rfl (lv_at hl 0 rfl) ?_
                                refine lv_isub hx hb dX5_cost_66 ?_
                                refine tpi (v := 122) (by decide) ?_
                                refine lv_idiv hx hb dX5_cost_67 (by decide) ?_
                                refine lv_iadd hx hb dX5_cost_68 ?_
                                exact W.iret (v := (12288 + ((1024 * (244 - p0)) / 122))) hx hb hr (fun t ht hW => ⟨(12288 + ((1024 * (244 - p0)) / 122)), rfl, (Or.inr (Or.inr (Or.inr (Or.inr (Or.inr (Or.inr (Or.inr (Or.inr (Or.inr (Or.inr (Or.inr (Or.inr (Or.inl ⟨c1, c2, c3, c4, c5, c6, c7, c8, c9, c10, c11, c12, c13, c14, c15, rfl⟩))))))))))))), ht⟩) (fun q hq => absurd hq List.not_mem_nil) dX5_cost_69
                              · skip
                                refine lv_iinc (v := 13) (lv' := [(1, .int 13), (0, .int p0)]) hx hb dX5_cost_34 hl (k := 0) rfl (by decide) (by decide) rfl (fun ls hl => ?_)
                                refine lv_goto (tgt := 18) hx hb dX5_cost_37 (by decide) ?_
                                refine lv_iload_n hx hb dX5_cost_18 rfl (lv_at hl 0 rfl) ?_
                                refine lv_bipush (v := 19) hx hb dX5_cost_19 (by decide) ?_
                                refine lv_icmp_ge (tgt := 40) hx hb dX5_cost_21 (by decide) (fun h => absurd h (by decide)) (fun _ => ?_)
                                refine lv_iload_n hx hb dX5_cost_24 rfl (lv_at hl 1 rfl) ?_
                                refine lv_ldc (v := 1000000) hx hb hown (hts _ wd329_X5_cost) dX5_cost_25 ?_
                                refine lv_iload_n hx hb dX5_cost_27 rfl (lv_at hl 0 rfl) ?_
                                refine lv_iconst (v := 1) hx hb dX5_cost_28 (by decide) ?_
                                refine lv_iadd hx hb dX5_cost_29 ?_
                                refine tpi (v := 14) (by decide) ?_
                                refine lv_ishr hx hb dX5_cost_30 ?_
                                refine tpi (v := 61) (by decide) ?_
                                refine lv_icmp_gt (tgt := 40) hx hb dX5_cost_31 (by decide) (fun c16 => ?_) (fun c16 => ?_)
                                · skip
                                  refine lv_ldc (v := 1000000) hx hb hown (hts _ wd329_X5_cost) dX5_cost_40 ?_
                                  refine lv_iload_n hx hb dX5_cost_42 rfl (lv_at hl 0 rfl) ?_
                                  refine lv_ishr hx hb dX5_cost_43 ?_
                                  refine tpi (v := 122) (by decide) ?_
                                  refine lv_istore_n (lv' := [(2, .int 122), (1, .int 13), (0, .int p0)]) hx hb dX5_cost_44 rfl hl (by decide) rfl (fun ls hl => ?_)
                                  refine lv_ldc (v := 1000000) hx hb hown (hts _ wd329_X5_cost) dX5_cost_45 ?_
                                  refine lv_iload_n hx hb dX5_cost_47 rfl (lv_at hl 1 rfl) ?_
                                  refine lv_iconst (v := 1) hx hb dX5_cost_48 (by decide) ?_
                                  refine lv_iadd hx hb dX5_cost_49 ?_
                                  refine tpi (v := 14) (by decide) ?_
                                  refine lv_ishr hx hb dX5_cost_50 ?_
                                  refine tpi (v := 61) (by decide) ?_
                                  refine lv_istore_n (lv' := [(3, .int 61), (2, .int 122), (1, .int 13), (0, .int p0)]) hx hb dX5_cost_51 rfl hl (by decide) rfl (fun ls hl => ?_)
                                  refine lv_sipush (v := 1024) hx hb dX5_cost_52 (by decide) ?_
                                  refine lv_iload_n hx hb dX5_cost_55 rfl (lv_at hl 2 rfl) ?_
                                  refine lv_imul hx hb dX5_cost_56 ?_
                                  refine tpi (v := 13312) (by decide) ?_
                                  refine lv_sipush (v := 1024) hx hb dX5_cost_57 (by decide) ?_
                                  refine lv_iload_n hx hb dX5_cost_60 rfl (lv_at hl 1 rfl) ?_
                                  refine lv_iload_n hx hb dX5_cost_61 rfl (lv_at hl 3 rfl) ?_
                                  refine lv_isub hx hb dX5_cost_62 ?_
                                  refine lv_imul hx hb dX5_cost_63 ?_
                                  refine lv_iload_n hx hb dX5_cost_64 rfl (lv_at hl 1 rfl) ?_
                                  refine lv_iload_n hx hb dX5_cost_65 rfl (lv_at hl 0 rfl) ?_
                                  refine lv_isub hx hb dX5_cost_66 ?_
                                  refine tpi (v := 61) (by decide) ?_
                                  refine lv_idiv hx hb dX5_cost_67 (by decide) ?_
                                  refine lv_iadd hx hb dX5_cost_68 ?_
                                  exact W.iret (v := (13312 + ((1024 * (122 - p0)) / 61))) hx hb hr (fun t ht hW => ⟨(13312 + ((1024 * (122 - p0)) / 61)), rfl, (Or.inr (Or.inr (Or.inr (Or.inr (Or.inr (Or.inr (Or.inr (Or.inr (Or.inr (Or.inr (Or.inr (Or.inr (Or.inr (Or.inl ⟨c1, c2, c3, c4, c5, c6, c7, c8, c9, c10, c11, c12, c13, c14, c15, c16, rfl⟩)))))))))))))), ht⟩) (fun q hq => absurd hq List.not_mem_nil) dX5_cost_69
                                · skip
                                  refine lv_iinc (v := 14) (lv' := [(1, .int 14), (0, .int p0)]) hx hb dX5_cost_34 hl (k := 0) rfl (by decide) (by decide) rfl (fun ls hl => ?_)
                                  refine lv_goto (tgt := 18) hx hb dX5_cost_37 (by decide) ?_
                                  refine lv_iload_n hx hb dX5_cost_18 rfl (lv_at hl 0 rfl) ?_
                                  refine lv_bipush (v := 19) hx hb dX5_cost_19 (by decide) ?_
                                  refine lv_icmp_ge (tgt := 40) hx hb dX5_cost_21 (by decide) (fun h => absurd h (by decide)) (fun _ => ?_)
                                  refine lv_iload_n hx hb dX5_cost_24 rfl (lv_at hl 1 rfl) ?_
                                  refine lv_ldc (v := 1000000) hx hb hown (hts _ wd329_X5_cost) dX5_cost_25 ?_
                                  refine lv_iload_n hx hb dX5_cost_27 rfl (lv_at hl 0 rfl) ?_
                                  refine lv_iconst (v := 1) hx hb dX5_cost_28 (by decide) ?_
                                  refine lv_iadd hx hb dX5_cost_29 ?_
                                  refine tpi (v := 15) (by decide) ?_
                                  refine lv_ishr hx hb dX5_cost_30 ?_
                                  refine tpi (v := 30) (by decide) ?_
                                  refine lv_icmp_gt (tgt := 40) hx hb dX5_cost_31 (by decide) (fun c17 => ?_) (fun c17 => ?_)
                                  · skip
                                    refine lv_ldc (v := 1000000) hx hb hown (hts _ wd329_X5_cost) dX5_cost_40 ?_
                                    refine lv_iload_n hx hb dX5_cost_42 rfl (lv_at hl 0 rfl) ?_
                                    refine lv_ishr hx hb dX5_cost_43 ?_
                                    refine tpi (v := 61) (by decide) ?_
                                    refine lv_istore_n (lv' := [(2, .int 61), (1, .int 14), (0, .int p0)]) hx hb dX5_cost_44 rfl hl (by decide) rfl (fun ls hl => ?_)
                                    refine lv_ldc (v := 1000000) hx hb hown (hts _ wd329_X5_cost) dX5_cost_45 ?_
                                    refine lv_iload_n hx hb dX5_cost_47 rfl (lv_at hl 1 rfl) ?_
                                    refine lv_iconst (v := 1) hx hb dX5_cost_48 (by decide) ?_
                                    refine lv_iadd hx hb dX5_cost_49 ?_
                                    refine tpi (v := 15) (by decide) ?_
                                    refine lv_ishr hx hb dX5_cost_50 ?_
                                    refine tpi (v := 30) (by decide) ?_
                                    refine lv_istore_n (lv' := [(3, .int 30), (2, .int 61), (1, .int 14), (0, .int p0)]) hx hb dX5_cost_51 rfl hl (by decide) rfl (fun ls hl => ?_)
                                    refine lv_sipush (v := 1024) hx hb dX5_cost_52 (by decide) ?_
                                    refine lv_iload_n hx hb dX5_cost_55 rfl (lv_at hl 2 rfl) ?_
                                    refine lv_imul hx hb dX5_cost_56 ?_
                                    refine tpi (v := 14336) (by decide) ?_
                                    refine lv_sipush (v := 1024) hx hb dX5_cost_57 (by decide) ?_
                                    refine lv_iload_n hx hb dX5_cost_60 rfl (lv_at hl 1 rfl) ?_
                                    refine lv_iload_n hx hb dX5_cost_61 rfl (lv_at hl 3 rfl) ?_
                                    refine lv_isub hx hb dX5_cost_62 ?_
                                    refine lv_imul hx hb dX5_cost_63 ?_
                                    refine lv_iload_n hx hb dX5_cost_64 rfl (lv_at hl 1 rfl) ?_
                                    refine lv_iload_n hx hb dX5_cost_65 rfl (lv_at hl 0 rfl) ?_
                                    refine lv_isub hx hb dX5_cost_66 ?_
                                    refine tpi (v := 31) (by decide) ?_
                                    refine lv_idiv hx hb dX5_cost_67 (by decide) ?_
                                    refine lv_iadd hx hb dX5_cost_68 ?_
                                    exact W.iret (v := (14336 + ((1024 * (61 - p0)) / 31))) hx hb hr (fun t ht hW => ⟨(14336 + ((1024 * (61 - p0)) / 31)), rfl, (Or.inr (Or.inr (Or.inr (Or.inr (Or.inr (Or.inr (Or.inr (Or.inr (Or.inr (Or.inr (Or.inr (Or.inr (Or.inr (Or.inr (Or.inl ⟨c1, c2, c3, c4, c5, c6, c7, c8, c9, c10, c11, c12, c13, c14, c15, c16, c17, rfl⟩))))))))))))))), ht⟩) (fun q hq => absurd hq List.not_mem_nil) dX5_cost_69
                                  · skip
                                    refine lv_iinc (v := 15) (lv' := [(1, .int 15), (0, .int p0)]) hx hb dX5_cost_34 hl (k := 0) rfl (by decide) (by decide) rfl (fun ls hl => ?_)
                                    refine lv_goto (tgt := 18) hx hb dX5_cost_37 (by decide) ?_
                                    refine lv_iload_n hx hb dX5_cost_18 rfl (lv_at hl 0 rfl) ?_
                                    refine lv_bipush (v := 19) hx hb dX5_cost_19 (by decide) ?_
                                    refine lv_icmp_ge (tgt := 40) hx hb dX5_cost_21 (by decide) (fun h => absurd h (by decide)) (fun _ => ?_)
                                    refine lv_iload_n hx hb dX5_cost_24 rfl (lv_at hl 1 rfl) ?_
                                    refine lv_ldc (v := 1000000) hx hb hown (hts _ wd329_X5_cost) dX5_cost_25 ?_
                                    refine lv_iload_n hx hb dX5_cost_27 rfl (lv_at hl 0 rfl) ?_
                                    refine lv_iconst (v := 1) hx hb dX5_cost_28 (by decide) ?_
                                    refine lv_iadd hx hb dX5_cost_29 ?_
                                    refine tpi (v := 16) (by decide) ?_
                                    refine lv_ishr hx hb dX5_cost_30 ?_
                                    refine tpi (v := 15) (by decide) ?_
                                    refine lv_icmp_gt (tgt := 40) hx hb dX5_cost_31 (by decide) (fun c18 => ?_) (fun c18 => ?_)
                                    · skip
                                      refine lv_ldc (v := 1000000) hx hb hown (hts _ wd329_X5_cost) dX5_cost_40 ?_
                                      refine lv_iload_n hx hb dX5_cost_42 rfl (lv_at hl 0 rfl) ?_
                                      refine lv_ishr hx hb dX5_cost_43 ?_
                                      refine tpi (v := 30) (by decide) ?_
                                      refine lv_istore_n (lv' := [(2, .int 30), (1, .int 15), (0, .int p0)]) hx hb dX5_cost_44 rfl hl (by decide) rfl (fun ls hl => ?_)
                                      refine lv_ldc (v := 1000000) hx hb hown (hts _ wd329_X5_cost) dX5_cost_45 ?_
                                      refine lv_iload_n hx hb dX5_cost_47 rfl (lv_at hl 1 rfl) ?_
                                      refine lv_iconst (v := 1) hx hb dX5_cost_48 (by decide) ?_
                                      refine lv_iadd hx hb dX5_cost_49 ?_
                                      refine tpi (v := 16) (by decide) ?_
                                      refine lv_ishr hx hb dX5_cost_50 ?_
                                      refine tpi (v := 15) (by decide) ?_
                                      refine lv_istore_n (lv' := [(3, .int 15), (2, .int 30), (1, .int 15), (0, .int p0)]) hx hb dX5_cost_51 rfl hl (by decide) rfl (fun ls hl => ?_)
                                      refine lv_sipush (v := 1024) hx hb dX5_cost_52 (by decide) ?_
                                      refine lv_iload_n hx hb dX5_cost_55 rfl (lv_at hl 2 rfl) ?_
                                      refine lv_imul hx hb dX5_cost_56 ?_
                                      refine tpi (v := 15360) (by decide) ?_
                                      refine lv_sipush (v := 1024) hx hb dX5_cost_57 (by decide) ?_
                                      refine lv_iload_n hx hb dX5_cost_60 rfl (lv_at hl 1 rfl) ?_
                                      refine lv_iload_n hx hb dX5_cost_61 rfl (lv_at hl 3 rfl) ?_
                                      refine lv_isub hx hb dX5_cost_62 ?_
                                      refine lv_imul hx hb dX5_cost_63 ?_
                                      refine lv_iload_n hx hb dX5_cost_64 rfl (lv_at hl 1 rfl) ?_
                                      refine lv_iload_n hx hb dX5_cost_65 rfl (lv_at hl 0 rfl) ?_
                                      refine lv_isub hx hb dX5_cost_66 ?_
                                      refine tpi (v := 15) (by decide) ?_
                                      refine lv_idiv hx hb dX5_cost_67 (by decide) ?_
                                      refine lv_iadd hx hb dX5_cost_68 ?_
                                      exact W.iret (v := (15360 + ((1024 * (30 - p0)) / 15))) hx hb hr (fun t ht hW => ⟨(15360 + ((1024 * (30 - p0)) / 15)), rfl, (Or.inr (Or.inr (Or.inr (Or.inr (Or.inr (Or.inr (Or.inr (Or.inr (Or.inr (Or.inr (Or.inr (Or.inr (Or.inr (Or.inr (Or.inr (Or.inl ⟨c1, c2, c3, c4, c5, c6, c7, c8, c9, c10, c11, c12, c13, c14, c15, c16, c17, c18, rfl⟩)))))))))))))))), ht⟩) (fun q hq => absurd hq List.not_mem_nil) dX5_cost_69
                                    · skip
                                      refine lv_iinc (v := 16) (lv' := [(1, .int 16), (0, .int p0)]) hx hb dX5_cost_34 hl (k := 0) rfl (by decide) (by decide) rfl (fun ls hl => ?_)
                                      refine lv_goto (tgt := 18) hx hb dX5_cost_37 (by decide) ?_
                                      refine lv_iload_n hx hb dX5_cost_18 rfl (lv_at hl 0 rfl) ?_
                                      refine lv_bipush (v := 19) hx hb dX5_cost_19 (by decide) ?_
                                      refine lv_icmp_ge (tgt := 40) hx hb dX5_cost_21 (by decide) (fun h => absurd h (by decide)) (fun _ => ?_)
                                      refine lv_iload_n hx hb dX5_cost_24 rfl (lv_at hl 1 rfl) ?_
                                      refine lv_ldc (v := 1000000) hx hb hown (hts _ wd329_X5_cost) dX5_cost_25 ?_
                                      refine lv_iload_n hx hb dX5_cost_27 rfl (lv_at hl 0 rfl) ?_
                                      refine lv_iconst (v := 1) hx hb dX5_cost_28 (by decide) ?_
                                      refine lv_iadd hx hb dX5_cost_29 ?_
                                      refine tpi (v := 17) (by decide) ?_
                                      refine lv_ishr hx hb dX5_cost_30 ?_
                                      refine tpi (v := 7) (by decide) ?_
                                      refine lv_icmp_gt (tgt := 40) hx hb dX5_cost_31 (by decide) (fun c19 => ?_) (fun c19 => ?_)
                                      · skip
                                        refine lv_ldc (v := 1000000) hx hb hown (hts _ wd329_X5_cost) dX5_cost_40 ?_
                                        refine lv_iload_n hx hb dX5_cost_42 rfl (lv_at hl 0 rfl) ?_
                                        refine lv_ishr hx hb dX5_cost_43 ?_
                                        refine tpi (v := 15) (by decide) ?_
                                        refine lv_istore_n (lv' := [(2, .int 15), (1, .int 16), (0, .int p0)]) hx hb dX5_cost_44 rfl hl (by decide) rfl (fun ls hl => ?_)
                                        refine lv_ldc (v := 1000000) hx hb hown (hts _ wd329_X5_cost) dX5_cost_45 ?_
                                        refine lv_iload_n hx hb dX5_cost_47 rfl (lv_at hl 1 rfl) ?_
                                        refine lv_iconst (v := 1) hx hb dX5_cost_48 (by decide) ?_
                                        refine lv_iadd hx hb dX5_cost_49 ?_
                                        refine tpi (v := 17) (by decide) ?_
                                        refine lv_ishr hx hb dX5_cost_50 ?_
                                        refine tpi (v := 7) (by decide) ?_
                                        refine lv_istore_n (lv' := [(3, .int 7), (2, .int 15), (1, .int 16), (0, .int p0)]) hx hb dX5_cost_51 rfl hl (by decide) rfl (fun ls hl => ?_)
                                        refine lv_sipush (v := 1024) hx hb dX5_cost_52 (by decide) ?_
                                        refine lv_iload_n hx hb dX5_cost_55 rfl (lv_at hl 2 rfl) ?_
                                        refine lv_imul hx hb dX5_cost_56 ?_
                                        refine tpi (v := 16384) (by decide) ?_
                                        refine lv_sipush (v := 1024) hx hb dX5_cost_57 (by decide) ?_
                                        refine lv_iload_n hx hb dX5_cost_60 rfl (lv_at hl 1 rfl) ?_
                                        refine lv_iload_n hx hb dX5_cost_61 rfl (lv_at hl 3 rfl) ?_
                                        refine lv_isub hx hb dX5_cost_62 ?_
                                        refine lv_imul hx hb dX5_cost_63 ?_
                                        refine lv_iload_n hx hb dX5_cost_64 rfl (lv_at hl 1 rfl) ?_
                                        refine lv_iload_n hx hb dX5_cost_65 rfl (lv_at hl 0 rfl) ?_
                                        refine lv_isub hx hb dX5_cost_66 ?_
                                        refine tpi (v := 8) (by decide) ?_
                                        refine lv_idiv hx hb dX5_cost_67 (by decide) ?_
                                        refine lv_iadd hx hb dX5_cost_68 ?_
                                        exact W.iret (v := (16384 + ((1024 * (15 - p0)) / 8))) hx hb hr (fun t ht hW => ⟨(16384 + ((1024 * (15 - p0)) / 8)), rfl, (Or.inr (Or.inr (Or.inr (Or.inr (Or.inr (Or.inr (Or.inr (Or.inr (Or.inr (Or.inr (Or.inr (Or.inr (Or.inr (Or.inr (Or.inr (Or.inr (Or.inl ⟨c1, c2, c3, c4, c5, c6, c7, c8, c9, c10, c11, c12, c13, c14, c15, c16, c17, c18, c19, rfl⟩))))))))))))))))), ht⟩) (fun q hq => absurd hq List.not_mem_nil) dX5_cost_69
                                      · skip
                                        refine lv_iinc (v := 17) (lv' := [(1, .int 17), (0, .int p0)]) hx hb dX5_cost_34 hl (k := 0) rfl (by decide) (by decide) rfl (fun ls hl => ?_)
                                        refine lv_goto (tgt := 18) hx hb dX5_cost_37 (by decide) ?_
                                        refine lv_iload_n hx hb dX5_cost_18 rfl (lv_at hl 0 rfl) ?_
                                        refine lv_bipush (v := 19) hx hb dX5_cost_19 (by decide) ?_
                                        refine lv_icmp_ge (tgt := 40) hx hb dX5_cost_21 (by decide) (fun h => absurd h (by decide)) (fun _ => ?_)
                                        refine lv_iload_n hx hb dX5_cost_24 rfl (lv_at hl 1 rfl) ?_
                                        refine lv_ldc (v := 1000000) hx hb hown (hts _ wd329_X5_cost) dX5_cost_25 ?_
                                        refine lv_iload_n hx hb dX5_cost_27 rfl (lv_at hl 0 rfl) ?_
                                        refine lv_iconst (v := 1) hx hb dX5_cost_28 (by decide) ?_
                                        refine lv_iadd hx hb dX5_cost_29 ?_
                                        refine tpi (v := 18) (by decide) ?_
                                        refine lv_ishr hx hb dX5_cost_30 ?_
                                        refine tpi (v := 3) (by decide) ?_
                                        refine lv_icmp_gt (tgt := 40) hx hb dX5_cost_31 (by decide) (fun c20 => ?_) (fun c20 => ?_)
                                        · skip
                                          refine lv_ldc (v := 1000000) hx hb hown (hts _ wd329_X5_cost) dX5_cost_40 ?_
                                          refine lv_iload_n hx hb dX5_cost_42 rfl (lv_at hl 0 rfl) ?_
                                          refine lv_ishr hx hb dX5_cost_43 ?_
                                          refine tpi (v := 7) (by decide) ?_
                                          refine lv_istore_n (lv' := [(2, .int 7), (1, .int 17), (0, .int p0)]) hx hb dX5_cost_44 rfl hl (by decide) rfl (fun ls hl => ?_)
                                          refine lv_ldc (v := 1000000) hx hb hown (hts _ wd329_X5_cost) dX5_cost_45 ?_
                                          refine lv_iload_n hx hb dX5_cost_47 rfl (lv_at hl 1 rfl) ?_
                                          refine lv_iconst (v := 1) hx hb dX5_cost_48 (by decide) ?_
                                          refine lv_iadd hx hb dX5_cost_49 ?_
                                          refine tpi (v := 18) (by decide) ?_
                                          refine lv_ishr hx hb dX5_cost_50 ?_
                                          refine tpi (v := 3) (by decide) ?_
                                          refine lv_istore_n (lv' := [(3, .int 3), (2, .int 7), (1, .int 17), (0, .int p0)]) hx hb dX5_cost_51 rfl hl (by decide) rfl (fun ls hl => ?_)
                                          refine lv_sipush (v := 1024) hx hb dX5_cost_52 (by decide) ?_
                                          refine lv_iload_n hx hb dX5_cost_55 rfl (lv_at hl 2 rfl) ?_
                                          refine lv_imul hx hb dX5_cost_56 ?_
                                          refine tpi (v := 17408) (by decide) ?_
                                          refine lv_sipush (v := 1024) hx hb dX5_cost_57 (by decide) ?_
                                          refine lv_iload_n hx hb dX5_cost_60 rfl (lv_at hl 1 rfl) ?_
                                          refine lv_iload_n hx hb dX5_cost_61 rfl (lv_at hl 3 rfl) ?_
                                          refine lv_isub hx hb dX5_cost_62 ?_
                                          refine lv_imul hx hb dX5_cost_63 ?_
                                          refine lv_iload_n hx hb dX5_cost_64 rfl (lv_at hl 1 rfl) ?_
                                          refine lv_iload_n hx hb dX5_cost_65 rfl (lv_at hl 0 rfl) ?_
                                          refine lv_isub hx hb dX5_cost_66 ?_
                                          refine tpi (v := 4) (by decide) ?_
                                          refine lv_idiv hx hb dX5_cost_67 (by decide) ?_
                                          refine lv_iadd hx hb dX5_cost_68 ?_
                                          exact W.iret (v := (17408 + ((1024 * (7 - p0)) / 4))) hx hb hr (fun t ht hW => ⟨(17408 + ((1024 * (7 - p0)) / 4)), rfl, (Or.inr (Or.inr (Or.inr (Or.inr (Or.inr (Or.inr (Or.inr (Or.inr (Or.inr (Or.inr (Or.inr (Or.inr (Or.inr (Or.inr (Or.inr (Or.inr (Or.inr (Or.inl ⟨c1, c2, c3, c4, c5, c6, c7, c8, c9, c10, c11, c12, c13, c14, c15, c16, c17, c18, c19, c20, rfl⟩)))))))))))))))))), ht⟩) (fun q hq => absurd hq List.not_mem_nil) dX5_cost_69
                                        · skip
                                          refine lv_iinc (v := 18) (lv' := [(1, .int 18), (0, .int p0)]) hx hb dX5_cost_34 hl (k := 0) rfl (by decide) (by decide) rfl (fun ls hl => ?_)
                                          refine lv_goto (tgt := 18) hx hb dX5_cost_37 (by decide) ?_
                                          refine lv_iload_n hx hb dX5_cost_18 rfl (lv_at hl 0 rfl) ?_
                                          refine lv_bipush (v := 19) hx hb dX5_cost_19 (by decide) ?_
                                          refine lv_icmp_ge (tgt := 40) hx hb dX5_cost_21 (by decide) (fun h => absurd h (by decide)) (fun _ => ?_)
                                          refine lv_iload_n hx hb dX5_cost_24 rfl (lv_at hl 1 rfl) ?_
                                          refine lv_ldc (v := 1000000) hx hb hown (hts _ wd329_X5_cost) dX5_cost_25 ?_
                                          refine lv_iload_n hx hb dX5_cost_27 rfl (lv_at hl 0 rfl) ?_
                                          refine lv_iconst (v := 1) hx hb dX5_cost_28 (by decide) ?_
                                          refine lv_iadd hx hb dX5_cost_29 ?_
                                          refine tpi (v := 19) (by decide) ?_
                                          refine lv_ishr hx hb dX5_cost_30 ?_
                                          refine tpi (v := 1) (by decide) ?_
                                          refine lv_icmp_gt (tgt := 40) hx hb dX5_cost_31 (by decide) (fun c21 => ?_) (fun c21 => ?_)
                                          · skip
                                            refine lv_ldc (v := 1000000) hx hb hown (hts _ wd329_X5_cost) dX5_cost_40 ?_
                                            refine lv_iload_n hx hb dX5_cost_42 rfl (lv_at hl 0 rfl) ?_
                                            refine lv_ishr hx hb dX5_cost_43 ?_
                                            refine tpi (v := 3) (by decide) ?_
                                            refine lv_istore_n (lv' := [(2, .int 3), (1, .int 18), (0, .int p0)]) hx hb dX5_cost_44 rfl hl (by decide) rfl (fun ls hl => ?_)
                                            refine lv_ldc (v := 1000000) hx hb hown (hts _ wd329_X5_cost) dX5_cost_45 ?_
                                            refine lv_iload_n hx hb dX5_cost_47 rfl (lv_at hl 1 rfl) ?_
                                            refine lv_iconst (v := 1) hx hb dX5_cost_48 (by decide) ?_
                                            refine lv_iadd hx hb dX5_cost_49 ?_
                                            refine tpi (v := 19) (by decide) ?_
                                            refine lv_ishr hx hb dX5_cost_50 ?_
                                            refine tpi (v := 1) (by decide) ?_
                                            refine lv_istore_n (lv' := [(3, .int 1), (2, .int 3), (1, .int 18), (0, .int p0)]) hx hb dX5_cost_51 rfl hl (by decide) rfl (fun ls hl => ?_)
                                            refine lv_sipush (v := 1024) hx hb dX5_cost_52 (by decide) ?_
                                            refine lv_iload_n hx hb dX5_cost_55 rfl (lv_at hl 2 rfl) ?_
                                            refine lv_imul hx hb dX5_cost_56 ?_
                                            refine tpi (v := 18432) (by decide) ?_
                                            refine lv_sipush (v := 1024) hx hb dX5_cost_57 (by decide) ?_
                                            refine lv_iload_n hx hb dX5_cost_60 rfl (lv_at hl 1 rfl) ?_
                                            refine lv_iload_n hx hb dX5_cost_61 rfl (lv_at hl 3 rfl) ?_
                                            refine lv_isub hx hb dX5_cost_62 ?_
                                            refine lv_imul hx hb dX5_cost_63 ?_
                                            refine lv_iload_n hx hb dX5_cost_64 rfl (lv_at hl 1 rfl) ?_
                                            refine lv_iload_n hx hb dX5_cost_65 rfl (lv_at hl 0 rfl) ?_
                                            refine lv_isub hx hb dX5_cost_66 ?_
                                            refine tpi (v := 2) (by decide) ?_
                                            refine lv_idiv hx hb dX5_cost_67 (by decide) ?_
                                            refine lv_iadd hx hb dX5_cost_68 ?_
                                            exact W.iret (v := (18432 + ((1024 * (3 - p0)) / 2))) hx hb hr (fun t ht hW => ⟨(18432 + ((1024 * (3 - p0)) / 2)), rfl, (Or.inr (Or.inr (Or.inr (Or.inr (Or.inr (Or.inr (Or.inr (Or.inr (Or.inr (Or.inr (Or.inr (Or.inr (Or.inr (Or.inr (Or.inr (Or.inr (Or.inr (Or.inr (Or.inl ⟨c1, c2, c3, c4, c5, c6, c7, c8, c9, c10, c11, c12, c13, c14, c15, c16, c17, c18, c19, c20, c21, rfl⟩))))))))))))))))))), ht⟩) (fun q hq => absurd hq List.not_mem_nil) dX5_cost_69
                                          · skip
                                            refine lv_iinc (v := 19) (lv' := [(1, .int 19), (0, .int p0)]) hx hb dX5_cost_34 hl (k := 0) rfl (by decide) (by decide) rfl (fun ls hl => ?_)
                                            refine lv_goto (tgt := 18) hx hb dX5_cost_37 (by decide) ?_
                                            refine lv_iload_n hx hb dX5_cost_18 rfl (lv_at hl 0 rfl) ?_
                                            refine lv_bipush (v := 19) hx hb dX5_cost_19 (by decide) ?_
                                            refine lv_icmp_ge (tgt := 40) hx hb dX5_cost_21 (by decide) (fun _ => ?_) (fun h => absurd (by decide) h)
                                            refine lv_ldc (v := 1000000) hx hb hown (hts _ wd329_X5_cost) dX5_cost_40 ?_
                                            refine lv_iload_n hx hb dX5_cost_42 rfl (lv_at hl 0 rfl) ?_
                                            refine lv_ishr hx hb dX5_cost_43 ?_
                                            refine tpi (v := 1) (by decide) ?_
                                            refine lv_istore_n (lv' := [(2, .int 1), (1, .int 19), (0, .int p0)]) hx hb dX5_cost_44 rfl hl (by decide) rfl (fun ls hl => ?_)
                                            refine lv_ldc (v := 1000000) hx hb hown (hts _ wd329_X5_cost) dX5_cost_45 ?_
                                            refine lv_iload_n hx hb dX5_cost_47 rfl (lv_at hl 1 rfl) ?_
                                            refine lv_iconst (v := 1) hx hb dX5_cost_48 (by decide) ?_
                                            refine lv_iadd hx hb dX5_cost_49 ?_
                                            refine tpi (v := 20) (by decide) ?_
                                            refine lv_ishr hx hb dX5_cost_50 ?_
                                            refine tpi (v := 0) (by decide) ?_
                                            refine lv_istore_n (lv' := [(3, .int 0), (2, .int 1), (1, .int 19), (0, .int p0)]) hx hb dX5_cost_51 rfl hl (by decide) rfl (fun ls hl => ?_)
                                            refine lv_sipush (v := 1024) hx hb dX5_cost_52 (by decide) ?_
                                            refine lv_iload_n hx hb dX5_cost_55 rfl (lv_at hl 2 rfl) ?_
                                            refine lv_imul hx hb dX5_cost_56 ?_
                                            refine tpi (v := 19456) (by decide) ?_
                                            refine lv_sipush (v := 1024) hx hb dX5_cost_57 (by decide) ?_
                                            refine lv_iload_n hx hb dX5_cost_60 rfl (lv_at hl 1 rfl) ?_
                                            refine lv_iload_n hx hb dX5_cost_61 rfl (lv_at hl 3 rfl) ?_
                                            refine lv_isub hx hb dX5_cost_62 ?_
                                            refine lv_imul hx hb dX5_cost_63 ?_
                                            refine lv_iload_n hx hb dX5_cost_64 rfl (lv_at hl 1 rfl) ?_
                                            refine lv_iload_n hx hb dX5_cost_65 rfl (lv_at hl 0 rfl) ?_
                                            refine lv_isub hx hb dX5_cost_66 ?_
                                            refine tpi (v := 1) (by decide) ?_
                                            refine lv_idiv hx hb dX5_cost_67 (by decide) ?_
                                            refine lv_iadd hx hb dX5_cost_68 ?_
                                            exact W.iret (v := (19456 + ((1024 * (1 - p0)) / 1))) hx hb hr (fun t ht hW => ⟨(19456 + ((1024 * (1 - p0)) / 1)), rfl, (Or.inr (Or.inr (Or.inr (Or.inr (Or.inr (Or.inr (Or.inr (Or.inr (Or.inr (Or.inr (Or.inr (Or.inr (Or.inr (Or.inr (Or.inr (Or.inr (Or.inr (Or.inr (Or.inr (Or.inl ⟨c1, c2, c3, c4, c5, c6, c7, c8, c9, c10, c11, c12, c13, c14, c15, c16, c17, c18, c19, c20, c21, rfl⟩)))))))))))))))))))), ht⟩) (fun q hq => absurd hq List.not_mem_nil) dX5_cost_69
    · skip
      refine lv_iconst (v := 0) hx hb dX5_cost_14 (by decide) ?_
      exact W.iret (v := 0) hx hb hr (fun t ht hW => ⟨0, rfl, (Or.inr (Or.inr (Or.inr (Or.inr (Or.inr (Or.inr (Or.inr (Or.inr (Or.inr (Or.inr (Or.inr (Or.inr (Or.inr (Or.inr (Or.inr (Or.inr (Or.inr (Or.inr (Or.inr (Or.inr (Or.inl ⟨c1, c2, rfl⟩))))))))))))))))))))), ht⟩) (fun q hq => absurd hq List.not_mem_nil) dX5_cost_15
  · skip
    refine lv_ldcw (v := 32768) hx hb hown (hts _ wd330_X5_cost) dX5_cost_4 ?_
    exact W.iret (v := 32768) hx hb hr (fun t ht hW => ⟨32768, rfl, (Or.inr (Or.inr (Or.inr (Or.inr (Or.inr (Or.inr (Or.inr (Or.inr (Or.inr (Or.inr (Or.inr (Or.inr (Or.inr (Or.inr (Or.inr (Or.inr (Or.inr (Or.inr (Or.inr (Or.inr (Or.inr ⟨c1, rfl⟩))))))))))))))))))))), ht⟩) (fun q hq => absurd hq List.not_mem_nil) dX5_cost_7

set_option maxHeartbeats 4000000 in
set_option maxRecDepth 100000 in
theorem k_X5_costOf_0 (l : Launch) (D : va_G) (κ ε : Nat → Nat) (h0 : Nat) (sz : Nat) (p0 : Int32) : Met l yX5_costOf wsX5_costOf ({ frames := 1, cells := 0, slots := 0, locals := 23 }) (va_Pc [.ref h0, .int p0] (Pre2 D κ ε [] sz)) (va_Qi (fun r (u : Unit) => ((0 < p0) ∧ (p0 < 1000000) ∧ (500000 < p0) ∧ (r = ((1024 * (1000000 - p0)) / 500000))) ∨ ((0 < p0) ∧ (p0 < 1000000) ∧ (¬ 500000 < p0) ∧ (250000 < p0) ∧ (r = (1024 + ((1024 * (500000 - p0)) / 250000)))) ∨ ((0 < p0) ∧ (p0 < 1000000) ∧ (¬ 500000 < p0) ∧ (¬ 250000 < p0) ∧ (125000 < p0) ∧ (r = (2048 + ((1024 * (250000 - p0)) / 125000)))) ∨ ((0 < p0) ∧ (p0 < 1000000) ∧ (¬ 500000 < p0) ∧ (¬ 250000 < p0) ∧ (¬ 125000 < p0) ∧ (62500 < p0) ∧ (r = (3072 + ((1024 * (125000 - p0)) / 62500)))) ∨ ((0 < p0) ∧ (p0 < 1000000) ∧ (¬ 500000 < p0) ∧ (¬ 250000 < p0) ∧ (¬ 125000 < p0) ∧ (¬ 62500 < p0) ∧ (31250 < p0) ∧ (r = (4096 + ((1024 * (62500 - p0)) / 31250)))) ∨ ((0 < p0) ∧ (p0 < 1000000) ∧ (¬ 500000 < p0) ∧ (¬ 250000 < p0) ∧ (¬ 125000 < p0) ∧ (¬ 62500 < p0) ∧ (¬ 31250 < p0) ∧ (15625 < p0) ∧ (r = (5120 + ((1024 * (31250 - p0)) / 15625)))) ∨ ((0 < p0) ∧ (p0 < 1000000) ∧ (¬ 500000 < p0) ∧ (¬ 250000 < p0) ∧ (¬ 125000 < p0) ∧ (¬ 62500 < p0) ∧ (¬ 31250 < p0) ∧ (¬ 15625 < p0) ∧ (7812 < p0) ∧ (r = (6144 + ((1024 * (15625 - p0)) / 7813)))) ∨ ((0 < p0) ∧ (p0 < 1000000) ∧ (¬ 500000 < p0) ∧ (¬ 250000 < p0) ∧ (¬ 125000 < p0) ∧ (¬ 62500 < p0) ∧ (¬ 31250 < p0) ∧ (¬ 15625 < p0) ∧ (¬ 7812 < p0) ∧ (3906 < p0) ∧ (r = (7168 + ((1024 * (7812 - p0)) / 3906)))) ∨ ((0 < p0) ∧ (p0 < 1000000) ∧ (¬ 500000 < p0) ∧ (¬ 250000 < p0) ∧ (¬ 125000 < p0) ∧ (¬ 62500 < p0) ∧ (¬ 31250 < p0) ∧ (¬ 15625 < p0) ∧ (¬ 7812 < p0) ∧ (¬ 3906 < p0) ∧ (1953 < p0) ∧ (r = (8192 + ((1024 * (3906 - p0)) / 1953)))) ∨ ((0 < p0) ∧ (p0 < 1000000) ∧ (¬ 500000 < p0) ∧ (¬ 250000 < p0) ∧ (¬ 125000 < p0) ∧ (¬ 62500 < p0) ∧ (¬ 31250 < p0) ∧ (¬ 15625 < p0) ∧ (¬ 7812 < p0) ∧ (¬ 3906 < p0) ∧ (¬ 1953 < p0) ∧ (976 < p0) ∧ (r = (9216 + ((1024 * (1953 - p0)) / 977)))) ∨ ((0 < p0) ∧ (p0 < 1000000) ∧ (¬ 500000 < p0) ∧ (¬ 250000 < p0) ∧ (¬ 125000 < p0) ∧ (¬ 62500 < p0) ∧ (¬ 31250 < p0) ∧ (¬ 15625 < p0) ∧ (¬ 7812 < p0) ∧ (¬ 3906 < p0) ∧ (¬ 1953 < p0) ∧ (¬ 976 < p0) ∧ (488 < p0) ∧ (r = (10240 + ((1024 * (976 - p0)) / 488)))) ∨ ((0 < p0) ∧ (p0 < 1000000) ∧ (¬ 500000 < p0) ∧ (¬ 250000 < p0) ∧ (¬ 125000 < p0) ∧ (¬ 62500 < p0) ∧ (¬ 31250 < p0) ∧ (¬ 15625 < p0) ∧ (¬ 7812 < p0) ∧ (¬ 3906 < p0) ∧ (¬ 1953 < p0) ∧ (¬ 976 < p0) ∧ (¬ 488 < p0) ∧ (244 < p0) ∧ (r = (11264 + ((1024 * (488 - p0)) / 244)))) ∨ ((0 < p0) ∧ (p0 < 1000000) ∧ (¬ 500000 < p0) ∧ (¬ 250000 < p0) ∧ (¬ 125000 < p0) ∧ (¬ 62500 < p0) ∧ (¬ 31250 < p0) ∧ (¬ 15625 < p0) ∧ (¬ 7812 < p0) ∧ (¬ 3906 < p0) ∧ (¬ 1953 < p0) ∧ (¬ 976 < p0) ∧ (¬ 488 < p0) ∧ (¬ 244 < p0) ∧ (122 < p0) ∧ (r = (12288 + ((1024 * (244 - p0)) / 122)))) ∨ ((0 < p0) ∧ (p0 < 1000000) ∧ (¬ 500000 < p0) ∧ (¬ 250000 < p0) ∧ (¬ 125000 < p0) ∧ (¬ 62500 < p0) ∧ (¬ 31250 < p0) ∧ (¬ 15625 < p0) ∧ (¬ 7812 < p0) ∧ (¬ 3906 < p0) ∧ (¬ 1953 < p0) ∧ (¬ 976 < p0) ∧ (¬ 488 < p0) ∧ (¬ 244 < p0) ∧ (¬ 122 < p0) ∧ (61 < p0) ∧ (r = (13312 + ((1024 * (122 - p0)) / 61)))) ∨ ((0 < p0) ∧ (p0 < 1000000) ∧ (¬ 500000 < p0) ∧ (¬ 250000 < p0) ∧ (¬ 125000 < p0) ∧ (¬ 62500 < p0) ∧ (¬ 31250 < p0) ∧ (¬ 15625 < p0) ∧ (¬ 7812 < p0) ∧ (¬ 3906 < p0) ∧ (¬ 1953 < p0) ∧ (¬ 976 < p0) ∧ (¬ 488 < p0) ∧ (¬ 244 < p0) ∧ (¬ 122 < p0) ∧ (¬ 61 < p0) ∧ (30 < p0) ∧ (r = (14336 + ((1024 * (61 - p0)) / 31)))) ∨ ((0 < p0) ∧ (p0 < 1000000) ∧ (¬ 500000 < p0) ∧ (¬ 250000 < p0) ∧ (¬ 125000 < p0) ∧ (¬ 62500 < p0) ∧ (¬ 31250 < p0) ∧ (¬ 15625 < p0) ∧ (¬ 7812 < p0) ∧ (¬ 3906 < p0) ∧ (¬ 1953 < p0) ∧ (¬ 976 < p0) ∧ (¬ 488 < p0) ∧ (¬ 244 < p0) ∧ (¬ 122 < p0) ∧ (¬ 61 < p0) ∧ (¬ 30 < p0) ∧ (15 < p0) ∧ (r = (15360 + ((1024 * (30 - p0)) / 15)))) ∨ ((0 < p0) ∧ (p0 < 1000000) ∧ (¬ 500000 < p0) ∧ (¬ 250000 < p0) ∧ (¬ 125000 < p0) ∧ (¬ 62500 < p0) ∧ (¬ 31250 < p0) ∧ (¬ 15625 < p0) ∧ (¬ 7812 < p0) ∧ (¬ 3906 < p0) ∧ (¬ 1953 < p0) ∧ (¬ 976 < p0) ∧ (¬ 488 < p0) ∧ (¬ 244 < p0) ∧ (¬ 122 < p0) ∧ (¬ 61 < p0) ∧ (¬ 30 < p0) ∧ (¬ 15 < p0) ∧ (7 < p0) ∧ (r = (16384 + ((1024 * (15 - p0)) / 8)))) ∨ ((0 < p0) ∧ (p0 < 1000000) ∧ (¬ 500000 < p0) ∧ (¬ 250000 < p0) ∧ (¬ 125000 < p0) ∧ (¬ 62500 < p0) ∧ (¬ 31250 < p0) ∧ (¬ 15625 < p0) ∧ (¬ 7812 < p0) ∧ (¬ 3906 < p0) ∧ (¬ 1953 < p0) ∧ (¬ 976 < p0) ∧ (¬ 488 < p0) ∧ (¬ 244 < p0) ∧ (¬ 122 < p0) ∧ (¬ 61 < p0) ∧ (¬ 30 < p0) ∧ (¬ 15 < p0) ∧ (¬ 7 < p0) ∧ (3 < p0) ∧ (r = (17408 + ((1024 * (7 - p0)) / 4)))) ∨ ((0 < p0) ∧ (p0 < 1000000) ∧ (¬ 500000 < p0) ∧ (¬ 250000 < p0) ∧ (¬ 125000 < p0) ∧ (¬ 62500 < p0) ∧ (¬ 31250 < p0) ∧ (¬ 15625 < p0) ∧ (¬ 7812 < p0) ∧ (¬ 3906 < p0) ∧ (¬ 1953 < p0) ∧ (¬ 976 < p0) ∧ (¬ 488 < p0) ∧ (¬ 244 < p0) ∧ (¬ 122 < p0) ∧ (¬ 61 < p0) ∧ (¬ 30 < p0) ∧ (¬ 15 < p0) ∧ (¬ 7 < p0) ∧ (¬ 3 < p0) ∧ (1 < p0) ∧ (r = (18432 + ((1024 * (3 - p0)) / 2)))) ∨ ((0 < p0) ∧ (p0 < 1000000) ∧ (¬ 500000 < p0) ∧ (¬ 250000 < p0) ∧ (¬ 125000 < p0) ∧ (¬ 62500 < p0) ∧ (¬ 31250 < p0) ∧ (¬ 15625 < p0) ∧ (¬ 7812 < p0) ∧ (¬ 3906 < p0) ∧ (¬ 1953 < p0) ∧ (¬ 976 < p0) ∧ (¬ 488 < p0) ∧ (¬ 244 < p0) ∧ (¬ 122 < p0) ∧ (¬ 61 < p0) ∧ (¬ 30 < p0) ∧ (¬ 15 < p0) ∧ (¬ 7 < p0) ∧ (¬ 3 < p0) ∧ (¬ 1 < p0) ∧ (r = (19456 + ((1024 * (1 - p0)) / 1)))) ∨ ((0 < p0) ∧ (¬ p0 < 1000000) ∧ (r = 0)) ∨ ((¬ 0 < p0) ∧ (r = 32768))) (fun _ _ => True) (va_A [] sz)) 0 0 (va_A [] sz) := by
  refine Met.ofW (cc := cX5_costOf) (maxL := 2) (ret := (some .int)) (by decide) rfl ?_
  intro p e s m args below meth c s₁ B hml hv
  obtain ⟨rfl, hsz, hP, hK, hD0, hE9⟩ := hv
  have hx := B.exec
  have hb := B.bytes
  have hr := B.returns
  have hts := atoms_spec (ws := wsX5_costOf) B.pre
  have hown : s.vm.findClass RX5 = some m.cls := findClass_of_methodNamed B.named
  have hlocks := B.notSynchronized
  subst hsz
  have hD := hD0.self (sz := s.heap.size)
  generalize hAe : va_A [] s.heap.size = A at hD hE9 ⊢
  have hE := hE9.1
  have hDc := hE9.2
  have hA : ∀ q : Nat, s.heap.size ≤ q → A q := fun q h => by rw [← hAe]; exact Or.inr h
  have hS : va_S A s.heap s.heap [] := va_S.rf
  have hP : va_P D vwCl [] s.heap := hP
  have hl := lv_entry [.ref h0, .int p0] (n := 2) (Nat.le_of_ble_eq_true rfl)
  rw [lg_entry_eq]
  generalize (lg_sl [.ref h0, .int p0] ++ List.replicate (2 - (lg_sl [.ref h0, .int p0]).length) Slot.unset).toArray = ls at hl ⊢
  have hl : lv_has ls 2 [(0, .ref h0), (1, .int p0)] := hl
  refine lv_iload_n hx hb dX5_costOf_0 rfl (lv_at hl 1 rfl) ?_
  refine vp_callSi (W.runS (As := [.int p0]) (rest := []) ⟨hx, hb, hml, hown, hts⟩ (k_X5_cost_0 l D κ ε (p0)) (va_cwS 1 hts gX5_costOf_X5_cost rfl rfl rfl (by decide +kernel) ⟨(Nat.le_of_ble_eq_true rfl), (Nat.le_of_ble_eq_true rfl)⟩) (pre0_S (wc := []) hP hK [] rfl) rfl rfl hl.1 rfl (lv_room (Nat.le_of_ble_eq_true rfl)) dX5_costOf_1 ⟨(Nat.le_of_ble_eq_true rfl), (Nat.le_of_ble_eq_true rfl)⟩) (fun r hw => ?_)
  rcases hw with ⟨c1, c2, c3, hv4⟩ | ⟨c5, c6, c7, c8, hv9⟩ | ⟨c10, c11, c12, c13, c14, hv15⟩ | ⟨c16, c17, c18, c19, c20, c21, hv22⟩ | ⟨c23, c24, c25, c26, c27, c28, c29, hv30⟩ | ⟨c31, c32, c33, c34, c35, c36, c37, c38, hv39⟩ | ⟨c40, c41, c42, c43, c44, c45, c46, c47, c48, hv49⟩ | ⟨c50, c51, c52, c53, c54, c55, c56, c57, c58, c59, hv60⟩ | ⟨c61, c62, c63, c64, c65, c66, c67, c68, c69, c70, c71, hv72⟩ | ⟨c73, c74, c75, c76, c77, c78, c79, c80, c81, c82, c83, c84, hv85⟩ | ⟨c86, c87, c88, c89, c90, c91, c92, c93, c94, c95, c96, c97, c98, hv99⟩ | ⟨c100, c101, c102, c103, c104, c105, c106, c107, c108, c109, c110, c111, c112, c113, hv114⟩ | ⟨c115, c116, c117, c118, c119, c120, c121, c122, c123, c124, c125, c126, c127, c128, c129, hv130⟩ | ⟨c131, c132, c133, c134, c135, c136, c137, c138, c139, c140, c141, c142, c143, c144, c145, c146, hv147⟩ | ⟨c148, c149, c150, c151, c152, c153, c154, c155, c156, c157, c158, c159, c160, c161, c162, c163, c164, hv165⟩ | ⟨c166, c167, c168, c169, c170, c171, c172, c173, c174, c175, c176, c177, c178, c179, c180, c181, c182, c183, hv184⟩ | ⟨c185, c186, c187, c188, c189, c190, c191, c192, c193, c194, c195, c196, c197, c198, c199, c200, c201, c202, c203, hv204⟩ | ⟨c205, c206, c207, c208, c209, c210, c211, c212, c213, c214, c215, c216, c217, c218, c219, c220, c221, c222, c223, c224, hv225⟩ | ⟨c226, c227, c228, c229, c230, c231, c232, c233, c234, c235, c236, c237, c238, c239, c240, c241, c242, c243, c244, c245, c246, hv247⟩ | ⟨c248, c249, c250, c251, c252, c253, c254, c255, c256, c257, c258, c259, c260, c261, c262, c263, c264, c265, c266, c267, c268, hv269⟩ | ⟨c270, c271, rfl⟩ | ⟨c272, rfl⟩
  · skip
    rw [hv4]
    exact W.iret (v := ((1024 * (1000000 - p0)) / 500000)) hx hb hr (fun t ht hW => ⟨⟨((1024 * (1000000 - p0)) / 500000), (), rfl, (Or.inl ⟨c1, c2, c3, rfl⟩), trivial⟩, hS.F ht⟩) hS.2.2 dX5_costOf_4
  · skip
    rw [hv9]
    exact W.iret (v := (1024 + ((1024 * (500000 - p0)) / 250000))) hx hb hr (fun t ht hW => ⟨⟨(1024 + ((1024 * (500000 - p0)) / 250000)), (), rfl, (Or.inr (Or.inl ⟨c5, c6, c7, c8, rfl⟩)), trivial⟩, hS.F ht⟩) hS.2.2 dX5_costOf_4
  · skip
    rw [hv15]
    exact W.iret (v := (2048 + ((1024 * (250000 - p0)) / 125000))) hx hb hr (fun t ht hW => ⟨⟨(2048 + ((1024 * (250000 - p0)) / 125000)), (), rfl, (Or.inr (Or.inr (Or.inl ⟨c10, c11, c12, c13, c14, rfl⟩))), trivial⟩, hS.F ht⟩) hS.2.2 dX5_costOf_4
  · skip
    rw [hv22]
    exact W.iret (v := (3072 + ((1024 * (125000 - p0)) / 62500))) hx hb hr (fun t ht hW => ⟨⟨(3072 + ((1024 * (125000 - p0)) / 62500)), (), rfl, (Or.inr (Or.inr (Or.inr (Or.inl ⟨c16, c17, c18, c19, c20, c21, rfl⟩)))), trivial⟩, hS.F ht⟩) hS.2.2 dX5_costOf_4
  · skip
    rw [hv30]
    exact W.iret (v := (4096 + ((1024 * (62500 - p0)) / 31250))) hx hb hr (fun t ht hW => ⟨⟨(4096 + ((1024 * (62500 - p0)) / 31250)), (), rfl, (Or.inr (Or.inr (Or.inr (Or.inr (Or.inl ⟨c23, c24, c25, c26, c27, c28, c29, rfl⟩))))), trivial⟩, hS.F ht⟩) hS.2.2 dX5_costOf_4
  · skip
    rw [hv39]
    exact W.iret (v := (5120 + ((1024 * (31250 - p0)) / 15625))) hx hb hr (fun t ht hW => ⟨⟨(5120 + ((1024 * (31250 - p0)) / 15625)), (), rfl, (Or.inr (Or.inr (Or.inr (Or.inr (Or.inr (Or.inl ⟨c31, c32, c33, c34, c35, c36, c37, c38, rfl⟩)))))), trivial⟩, hS.F ht⟩) hS.2.2 dX5_costOf_4
  · skip
    rw [hv49]
    exact W.iret (v := (6144 + ((1024 * (15625 - p0)) / 7813))) hx hb hr (fun t ht hW => ⟨⟨(6144 + ((1024 * (15625 - p0)) / 7813)), (), rfl, (Or.inr (Or.inr (Or.inr (Or.inr (Or.inr (Or.inr (Or.inl ⟨c40, c41, c42, c43, c44, c45, c46, c47, c48, rfl⟩))))))), trivial⟩, hS.F ht⟩) hS.2.2 dX5_costOf_4
  · skip
    rw [hv60]
    exact W.iret (v := (7168 + ((1024 * (7812 - p0)) / 3906))) hx hb hr (fun t ht hW => ⟨⟨(7168 + ((1024 * (7812 - p0)) / 3906)), (), rfl, (Or.inr (Or.inr (Or.inr (Or.inr (Or.inr (Or.inr (Or.inr (Or.inl ⟨c50, c51, c52, c53, c54, c55, c56, c57, c58, c59, rfl⟩)))))))), trivial⟩, hS.F ht⟩) hS.2.2 dX5_costOf_4
  · skip
    rw [hv72]
    exact W.iret (v := (8192 + ((1024 * (3906 - p0)) / 1953))) hx hb hr (fun t ht hW => ⟨⟨(8192 + ((1024 * (3906 - p0)) / 1953)), (), rfl, (Or.inr (Or.inr (Or.inr (Or.inr (Or.inr (Or.inr (Or.inr (Or.inr (Or.inl ⟨c61, c62, c63, c64, c65, c66, c67, c68, c69, c70, c71, rfl⟩))))))))), trivial⟩, hS.F ht⟩) hS.2.2 dX5_costOf_4
  · skip
    rw [hv85]
    exact W.iret (v := (9216 + ((1024 * (1953 - p0)) / 977))) hx hb hr (fun t ht hW => ⟨⟨(9216 + ((1024 * (1953 - p0)) / 977)), (), rfl, (Or.inr (Or.inr (Or.inr (Or.inr (Or.inr (Or.inr (Or.inr (Or.inr (Or.inr (Or.inl ⟨c73, c74, c75, c76, c77, c78, c79, c80, c81, c82, c83, c84, rfl⟩)))))))))), trivial⟩, hS.F ht⟩) hS.2.2 dX5_costOf_4
  · skip
    rw [hv99]
    exact W.iret (v := (10240 + ((1024 * (976 - p0)) / 488))) hx hb hr (fun t ht hW => ⟨⟨(10240 + ((1024 * (976 - p0)) / 488)), (), rfl, (Or.inr (Or.inr (Or.inr (Or.inr (Or.inr (Or.inr (Or.inr (Or.inr (Or.inr (Or.inr (Or.inl ⟨c86, c87, c88, c89, c90, c91, c92, c93, c94, c95, c96, c97, c98, rfl⟩))))))))))), trivial⟩, hS.F ht⟩) hS.2.2 dX5_costOf_4
  · skip
    rw [hv114]
    exact W.iret (v := (11264 + ((1024 * (488 - p0)) / 244))) hx hb hr (fun t ht hW => ⟨⟨(11264 + ((1024 * (488 - p0)) / 244)), (), rfl, (Or.inr (Or.inr (Or.inr (Or.inr (Or.inr (Or.inr (Or.inr (Or.inr (Or.inr (Or.inr (Or.inr (Or.inl ⟨c100, c101, c102, c103, c104, c105, c106, c107, c108, c109, c110, c111, c112, c113, rfl⟩)))))))))))), trivial⟩, hS.F ht⟩) hS.2.2 dX5_costOf_4
  · skip
    rw [hv130]
    exact W.iret (v := (12288 + ((1024 * (244 - p0)) / 122))) hx hb hr (fun t ht hW => ⟨⟨(12288 + ((1024 * (244 - p0)) / 122)), (), rfl, (Or.inr (Or.inr (Or.inr (Or.inr (Or.inr (Or.inr (Or.inr (Or.inr (Or.inr (Or.inr (Or.inr (Or.inr (Or.inl ⟨c115, c116, c117, c118, c119, c120, c121, c122, c123, c124, c125, c126, c127, c128, c129, rfl⟩))))))))))))), trivial⟩, hS.F ht⟩) hS.2.2 dX5_costOf_4
  · skip
    rw [hv147]
    exact W.iret (v := (13312 + ((1024 * (122 - p0)) / 61))) hx hb hr (fun t ht hW => ⟨⟨(13312 + ((1024 * (122 - p0)) / 61)), (), rfl, (Or.inr (Or.inr (Or.inr (Or.inr (Or.inr (Or.inr (Or.inr (Or.inr (Or.inr (Or.inr (Or.inr (Or.inr (Or.inr (Or.inl ⟨c131, c132, c133, c134, c135, c136, c137, c138, c139, c140, c141, c142, c143, c144, c145, c146, rfl⟩)))))))))))))), trivial⟩, hS.F ht⟩) hS.2.2 dX5_costOf_4
  · skip
    rw [hv165]
    exact W.iret (v := (14336 + ((1024 * (61 - p0)) / 31))) hx hb hr (fun t ht hW => ⟨⟨(14336 + ((1024 * (61 - p0)) / 31)), (), rfl, (Or.inr (Or.inr (Or.inr (Or.inr (Or.inr (Or.inr (Or.inr (Or.inr (Or.inr (Or.inr (Or.inr (Or.inr (Or.inr (Or.inr (Or.inl ⟨c148, c149, c150, c151, c152, c153, c154, c155, c156, c157, c158, c159, c160, c161, c162, c163, c164, rfl⟩))))))))))))))), trivial⟩, hS.F ht⟩) hS.2.2 dX5_costOf_4
  · skip
    rw [hv184]
    exact W.iret (v := (15360 + ((1024 * (30 - p0)) / 15))) hx hb hr (fun t ht hW => ⟨⟨(15360 + ((1024 * (30 - p0)) / 15)), (), rfl, (Or.inr (Or.inr (Or.inr (Or.inr (Or.inr (Or.inr (Or.inr (Or.inr (Or.inr (Or.inr (Or.inr (Or.inr (Or.inr (Or.inr (Or.inr (Or.inl ⟨c166, c167, c168, c169, c170, c171, c172, c173, c174, c175, c176, c177, c178, c179, c180, c181, c182, c183, rfl⟩)))))))))))))))), trivial⟩, hS.F ht⟩) hS.2.2 dX5_costOf_4
  · skip
    rw [hv204]
    exact W.iret (v := (16384 + ((1024 * (15 - p0)) / 8))) hx hb hr (fun t ht hW => ⟨⟨(16384 + ((1024 * (15 - p0)) / 8)), (), rfl, (Or.inr (Or.inr (Or.inr (Or.inr (Or.inr (Or.inr (Or.inr (Or.inr (Or.inr (Or.inr (Or.inr (Or.inr (Or.inr (Or.inr (Or.inr (Or.inr (Or.inl ⟨c185, c186, c187, c188, c189, c190, c191, c192, c193, c194, c195, c196, c197, c198, c199, c200, c201, c202, c203, rfl⟩))))))))))))))))), trivial⟩, hS.F ht⟩) hS.2.2 dX5_costOf_4
  · skip
    rw [hv225]
    exact W.iret (v := (17408 + ((1024 * (7 - p0)) / 4))) hx hb hr (fun t ht hW => ⟨⟨(17408 + ((1024 * (7 - p0)) / 4)), (), rfl, (Or.inr (Or.inr (Or.inr (Or.inr (Or.inr (Or.inr (Or.inr (Or.inr (Or.inr (Or.inr (Or.inr (Or.inr (Or.inr (Or.inr (Or.inr (Or.inr (Or.inr (Or.inl ⟨c205, c206, c207, c208, c209, c210, c211, c212, c213, c214, c215, c216, c217, c218, c219, c220, c221, c222, c223, c224, rfl⟩)))))))))))))))))), trivial⟩, hS.F ht⟩) hS.2.2 dX5_costOf_4
  · skip
    rw [hv247]
    exact W.iret (v := (18432 + ((1024 * (3 - p0)) / 2))) hx hb hr (fun t ht hW => ⟨⟨(18432 + ((1024 * (3 - p0)) / 2)), (), rfl, (Or.inr (Or.inr (Or.inr (Or.inr (Or.inr (Or.inr (Or.inr (Or.inr (Or.inr (Or.inr (Or.inr (Or.inr (Or.inr (Or.inr (Or.inr (Or.inr (Or.inr (Or.inr (Or.inl ⟨c226, c227, c228, c229, c230, c231, c232, c233, c234, c235, c236, c237, c238, c239, c240, c241, c242, c243, c244, c245, c246, rfl⟩))))))))))))))))))), trivial⟩, hS.F ht⟩) hS.2.2 dX5_costOf_4
  · skip
    rw [hv269]
    exact W.iret (v := (19456 + ((1024 * (1 - p0)) / 1))) hx hb hr (fun t ht hW => ⟨⟨(19456 + ((1024 * (1 - p0)) / 1)), (), rfl, (Or.inr (Or.inr (Or.inr (Or.inr (Or.inr (Or.inr (Or.inr (Or.inr (Or.inr (Or.inr (Or.inr (Or.inr (Or.inr (Or.inr (Or.inr (Or.inr (Or.inr (Or.inr (Or.inr (Or.inl ⟨c248, c249, c250, c251, c252, c253, c254, c255, c256, c257, c258, c259, c260, c261, c262, c263, c264, c265, c266, c267, c268, rfl⟩)))))))))))))))))))), trivial⟩, hS.F ht⟩) hS.2.2 dX5_costOf_4
  · skip
    exact W.iret (v := 0) hx hb hr (fun t ht hW => ⟨⟨0, (), rfl, (Or.inr (Or.inr (Or.inr (Or.inr (Or.inr (Or.inr (Or.inr (Or.inr (Or.inr (Or.inr (Or.inr (Or.inr (Or.inr (Or.inr (Or.inr (Or.inr (Or.inr (Or.inr (Or.inr (Or.inr (Or.inl ⟨c270, c271, rfl⟩))))))))))))))))))))), trivial⟩, hS.F ht⟩) hS.2.2 dX5_costOf_4
  · skip
    exact W.iret (v := 32768) hx hb hr (fun t ht hW => ⟨⟨32768, (), rfl, (Or.inr (Or.inr (Or.inr (Or.inr (Or.inr (Or.inr (Or.inr (Or.inr (Or.inr (Or.inr (Or.inr (Or.inr (Or.inr (Or.inr (Or.inr (Or.inr (Or.inr (Or.inr (Or.inr (Or.inr (Or.inr ⟨c272, rfl⟩))))))))))))))))))))), trivial⟩, hS.F ht⟩) hS.2.2 dX5_costOf_4

theorem wd331_X6_cost : (.constantLong RX6 159 1000000 : Cond) ∈ wsX6_cost := by decide +kernel

theorem wd332_X6_cost : (.constant RX6 132 1000000 : Cond) ∈ wsX6_cost := by decide +kernel

theorem wd333_X6_cost : (.constantLong RX6 173 1024 : Cond) ∈ wsX6_cost := by decide +kernel

theorem wd334_X6_cost : (.constant RX6 172 32768 : Cond) ∈ wsX6_cost := by decide +kernel

set_option maxHeartbeats 4000000 in
set_option maxRecDepth 100000 in
theorem k_X6_cost_0 (l : Launch) (D : va_G) (κ ε : Nat → Nat) (p0 : Int64) : Met l yX6_cost wsX6_cost ({ frames := 0, cells := 0, slots := 0, locals := 0 }) (va_Pc [.long p0] (Pre0 D κ [])) (vp_Si (fun r => ((0 < (lg_cmp p0 0)) ∧ ((lg_cmp p0 1000000) < 0) ∧ (0 < (lg_cmp p0 500000)) ∧ (r = (((1024 * (1000000 - p0)) / 500000)).toInt32)) ∨ ((0 < (lg_cmp p0 0)) ∧ ((lg_cmp p0 1000000) < 0) ∧ (¬ 0 < (lg_cmp p0 500000)) ∧ (0 < (lg_cmp p0 250000)) ∧ (r = ((1024 + ((1024 * (500000 - p0)) / 250000))).toInt32)) ∨ ((0 < (lg_cmp p0 0)) ∧ ((lg_cmp p0 1000000) < 0) ∧ (¬ 0 < (lg_cmp p0 500000)) ∧ (¬ 0 < (lg_cmp p0 250000)) ∧ (0 < (lg_cmp p0 125000)) ∧ (r = ((2048 + ((1024 * (250000 - p0)) / 125000))).toInt32)) ∨ ((0 < (lg_cmp p0 0)) ∧ ((lg_cmp p0 1000000) < 0) ∧ (¬ 0 < (lg_cmp p0 500000)) ∧ (¬ 0 < (lg_cmp p0 250000)) ∧ (¬ 0 < (lg_cmp p0 125000)) ∧ (0 < (lg_cmp p0 62500)) ∧ (r = ((3072 + ((1024 * (125000 - p0)) / 62500))).toInt32)) ∨ ((0 < (lg_cmp p0 0)) ∧ ((lg_cmp p0 1000000) < 0) ∧ (¬ 0 < (lg_cmp p0 500000)) ∧ (¬ 0 < (lg_cmp p0 250000)) ∧ (¬ 0 < (lg_cmp p0 125000)) ∧ (¬ 0 < (lg_cmp p0 62500)) ∧ (0 < (lg_cmp p0 31250)) ∧ (r = ((4096 + ((1024 * (62500 - p0)) / 31250))).toInt32)) ∨ ((0 < (lg_cmp p0 0)) ∧ ((lg_cmp p0 1000000) < 0) ∧ (¬ 0 < (lg_cmp p0 500000)) ∧ (¬ 0 < (lg_cmp p0 250000)) ∧ (¬ 0 < (lg_cmp p0 125000)) ∧ (¬ 0 < (lg_cmp p0 62500)) ∧ (¬ 0 < (lg_cmp p0 31250)) ∧ (0 < (lg_cmp p0 15625)) ∧ (r = ((5120 + ((1024 * (31250 - p0)) / 15625))).toInt32)) ∨ ((0 < (lg_cmp p0 0)) ∧ ((lg_cmp p0 1000000) < 0) ∧ (¬ 0 < (lg_cmp p0 500000)) ∧ (¬ 0 < (lg_cmp p0 250000)) ∧ (¬ 0 < (lg_cmp p0 125000)) ∧ (¬ 0 < (lg_cmp p0 62500)) ∧ (¬ 0 < (lg_cmp p0 31250)) ∧ (¬ 0 < (lg_cmp p0 15625)) ∧ (0 < (lg_cmp p0 7812)) ∧ (r = ((6144 + ((1024 * (15625 - p0)) / 7813))).toInt32)) ∨ ((0 < (lg_cmp p0 0)) ∧ ((lg_cmp p0 1000000) < 0) ∧ (¬ 0 < (lg_cmp p0 500000)) ∧ (¬ 0 < (lg_cmp p0 250000)) ∧ (¬ 0 < (lg_cmp p0 125000)) ∧ (¬ 0 < (lg_cmp p0 62500)) ∧ (¬ 0 < (lg_cmp p0 31250)) ∧ (¬ 0 < (lg_cmp p0 15625)) ∧ (¬ 0 < (lg_cmp p0 7812)) ∧ (0 < (lg_cmp p0 3906)) ∧ (r = ((7168 + ((1024 * (7812 - p0)) / 3906))).toInt32)) ∨ ((0 < (lg_cmp p0 0)) ∧ ((lg_cmp p0 1000000) < 0) ∧ (¬ 0 < (lg_cmp p0 500000)) ∧ (¬ 0 < (lg_cmp p0 250000)) ∧ (¬ 0 < (lg_cmp p0 125000)) ∧ (¬ 0 < (lg_cmp p0 62500)) ∧ (¬ 0 < (lg_cmp p0 31250)) ∧ (¬ 0 < (lg_cmp p0 15625)) ∧ (¬ 0 < (lg_cmp p0 7812)) ∧ (¬ 0 < (lg_cmp p0 3906)) ∧ (0 < (lg_cmp p0 1953)) ∧ (r = ((8192 + ((1024 * (3906 - p0)) / 1953))).toInt32)) ∨ ((0 < (lg_cmp p0 0)) ∧ ((lg_cmp p0 1000000) < 0) ∧ (¬ 0 < (lg_cmp p0 500000)) ∧ (¬ 0 < (lg_cmp p0 250000)) ∧ (¬ 0 < (lg_cmp p0 125000)) ∧ (¬ 0 < (lg_cmp p0 62500)) ∧ (¬ 0 < (lg_cmp p0 31250)) ∧ (¬ 0 < (lg_cmp p0 15625)) ∧ (¬ 0 < (lg_cmp p0 7812)) ∧ (¬ 0 < (lg_cmp p0 3906)) ∧ (¬ 0 < (lg_cmp p0 1953)) ∧ (0 < (lg_cmp p0 976)) ∧ (r = ((9216 + ((1024 * (1953 - p0)) / 977))).toInt32)) ∨ ((0 < (lg_cmp p0 0)) ∧ ((lg_cmp p0 1000000) < 0) ∧ (¬ 0 < (lg_cmp p0 500000)) ∧ (¬ 0 < (lg_cmp p0 250000)) ∧ (¬ 0 < (lg_cmp p0 125000)) ∧ (¬ 0 < (lg_cmp p0 62500)) ∧ (¬ 0 < (lg_cmp p0 31250)) ∧ (¬ 0 < (lg_cmp p0 15625)) ∧ (¬ 0 < (lg_cmp p0 7812)) ∧ (¬ 0 < (lg_cmp p0 3906)) ∧ (¬ 0 < (lg_cmp p0 1953)) ∧ (¬ 0 < (lg_cmp p0 976)) ∧ (0 < (lg_cmp p0 488)) ∧ (r = ((10240 + ((1024 * (976 - p0)) / 488))).toInt32)) ∨ ((0 < (lg_cmp p0 0)) ∧ ((lg_cmp p0 1000000) < 0) ∧ (¬ 0 < (lg_cmp p0 500000)) ∧ (¬ 0 < (lg_cmp p0 250000)) ∧ (¬ 0 < (lg_cmp p0 125000)) ∧ (¬ 0 < (lg_cmp p0 62500)) ∧ (¬ 0 < (lg_cmp p0 31250)) ∧ (¬ 0 < (lg_cmp p0 15625)) ∧ (¬ 0 < (lg_cmp p0 7812)) ∧ (¬ 0 < (lg_cmp p0 3906)) ∧ (¬ 0 < (lg_cmp p0 1953)) ∧ (¬ 0 < (lg_cmp p0 976)) ∧ (¬ 0 < (lg_cmp p0 488)) ∧ (0 < (lg_cmp p0 244)) ∧ (r = ((11264 + ((1024 * (488 - p0)) / 244))).toInt32)) ∨ ((0 < (lg_cmp p0 0)) ∧ ((lg_cmp p0 1000000) < 0) ∧ (¬ 0 < (lg_cmp p0 500000)) ∧ (¬ 0 < (lg_cmp p0 250000)) ∧ (¬ 0 < (lg_cmp p0 125000)) ∧ (¬ 0 < (lg_cmp p0 62500)) ∧ (¬ 0 < (lg_cmp p0 31250)) ∧ (¬ 0 < (lg_cmp p0 15625)) ∧ (¬ 0 < (lg_cmp p0 7812)) ∧ (¬ 0 < (lg_cmp p0 3906)) ∧ (¬ 0 < (lg_cmp p0 1953)) ∧ (¬ 0 < (lg_cmp p0 976)) ∧ (¬ 0 < (lg_cmp p0 488)) ∧ (¬ 0 < (lg_cmp p0 244)) ∧ (0 < (lg_cmp p0 122)) ∧ (r = ((12288 + ((1024 * (244 - p0)) / 122))).toInt32)) ∨ ((0 < (lg_cmp p0 0)) ∧ ((lg_cmp p0 1000000) < 0) ∧ (¬ 0 < (lg_cmp p0 500000)) ∧ (¬ 0 < (lg_cmp p0 250000)) ∧ (¬ 0 < (lg_cmp p0 125000)) ∧ (¬ 0 < (lg_cmp p0 62500)) ∧ (¬ 0 < (lg_cmp p0 31250)) ∧ (¬ 0 < (lg_cmp p0 15625)) ∧ (¬ 0 < (lg_cmp p0 7812)) ∧ (¬ 0 < (lg_cmp p0 3906)) ∧ (¬ 0 < (lg_cmp p0 1953)) ∧ (¬ 0 < (lg_cmp p0 976)) ∧ (¬ 0 < (lg_cmp p0 488)) ∧ (¬ 0 < (lg_cmp p0 244)) ∧ (¬ 0 < (lg_cmp p0 122)) ∧ (0 < (lg_cmp p0 61)) ∧ (r = ((13312 + ((1024 * (122 - p0)) / 61))).toInt32)) ∨ ((0 < (lg_cmp p0 0)) ∧ ((lg_cmp p0 1000000) < 0) ∧ (¬ 0 < (lg_cmp p0 500000)) ∧ (¬ 0 < (lg_cmp p0 250000)) ∧ (¬ 0 < (lg_cmp p0 125000)) ∧ (¬ 0 < (lg_cmp p0 62500)) ∧ (¬ 0 < (lg_cmp p0 31250)) ∧ (¬ 0 < (lg_cmp p0 15625)) ∧ (¬ 0 < (lg_cmp p0 7812)) ∧ (¬ 0 < (lg_cmp p0 3906)) ∧ (¬ 0 < (lg_cmp p0 1953)) ∧ (¬ 0 < (lg_cmp p0 976)) ∧ (¬ 0 < (lg_cmp p0 488)) ∧ (¬ 0 < (lg_cmp p0 244)) ∧ (¬ 0 < (lg_cmp p0 122)) ∧ (¬ 0 < (lg_cmp p0 61)) ∧ (0 < (lg_cmp p0 30)) ∧ (r = ((14336 + ((1024 * (61 - p0)) / 31))).toInt32)) ∨ ((0 < (lg_cmp p0 0)) ∧ ((lg_cmp p0 1000000) < 0) ∧ (¬ 0 < (lg_cmp p0 500000)) ∧ (¬ 0 < (lg_cmp p0 250000)) ∧ (¬ 0 < (lg_cmp p0 125000)) ∧ (¬ 0 < (lg_cmp p0 62500)) ∧ (¬ 0 < (lg_cmp p0 31250)) ∧ (¬ 0 < (lg_cmp p0 15625)) ∧ (¬ 0 < (lg_cmp p0 7812)) ∧ (¬ 0 < (lg_cmp p0 3906)) ∧ (¬ 0 < (lg_cmp p0 1953)) ∧ (¬ 0 < (lg_cmp p0 976)) ∧ (¬ 0 < (lg_cmp p0 488)) ∧ (¬ 0 < (lg_cmp p0 244)) ∧ (¬ 0 < (lg_cmp p0 122)) ∧ (¬ 0 < (lg_cmp p0 61)) ∧ (¬ 0 < (lg_cmp p0 30)) ∧ (0 < (lg_cmp p0 15)) ∧ (r = ((15360 + ((1024 * (30 - p0)) / 15))).toInt32)) ∨ ((0 < (lg_cmp p0 0)) ∧ ((lg_cmp p0 1000000) < 0) ∧ (¬ 0 < (lg_cmp p0 500000)) ∧ (¬ 0 < (lg_cmp p0 250000)) ∧ (¬ 0 < (lg_cmp p0 125000)) ∧ (¬ 0 < (lg_cmp p0 62500)) ∧ (¬ 0 < (lg_cmp p0 31250)) ∧ (¬ 0 < (lg_cmp p0 15625)) ∧ (¬ 0 < (lg_cmp p0 7812)) ∧ (¬ 0 < (lg_cmp p0 3906)) ∧ (¬ 0 < (lg_cmp p0 1953)) ∧ (¬ 0 < (lg_cmp p0 976)) ∧ (¬ 0 < (lg_cmp p0 488)) ∧ (¬ 0 < (lg_cmp p0 244)) ∧ (¬ 0 < (lg_cmp p0 122)) ∧ (¬ 0 < (lg_cmp p0 61)) ∧ (¬ 0 < (lg_cmp p0 30)) ∧ (¬ 0 < (lg_cmp p0 15)) ∧ (0 < (lg_cmp p0 7)) ∧ (r = ((16384 + ((1024 * (15 - p0)) / 8))).toInt32)) ∨ ((0 < (lg_cmp p0 0)) ∧ ((lg_cmp p0 1000000) < 0) ∧ (¬ 0 < (lg_cmp p0 500000)) ∧ (¬ 0 < (lg_cmp p0 250000)) ∧ (¬ 0 < (lg_cmp p0 125000)) ∧ (¬ 0 < (lg_cmp p0 62500)) ∧ (¬ 0 < (lg_cmp p0 31250)) ∧ (¬ 0 < (lg_cmp p0 15625)) ∧ (¬ 0 < (lg_cmp p0 7812)) ∧ (¬ 0 < (lg_cmp p0 3906)) ∧ (¬ 0 < (lg_cmp p0 1953)) ∧ (¬ 0 < (lg_cmp p0 976)) ∧ (¬ 0 < (lg_cmp p0 488)) ∧ (¬ 0 < (lg_cmp p0 244)) ∧ (¬ 0 < (lg_cmp p0 122)) ∧ (¬ 0 < (lg_cmp p0 61)) ∧ (¬ 0 < (lg_cmp p0 30)) ∧ (¬ 0 < (lg_cmp p0 15)) ∧ (¬ 0 < (lg_cmp p0 7)) ∧ (0 < (lg_cmp p0 3)) ∧ (r = ((17408 + ((1024 * (7 - p0)) / 4))).toInt32)) ∨ ((0 < (lg_cmp p0 0)) ∧ ((lg_cmp p0 1000000) < 0) ∧ (¬ 0 < (lg_cmp p0 500000)) ∧ (¬ 0 < (lg_cmp p0 250000)) ∧ (¬ 0 < (lg_cmp p0 125000)) ∧ (¬ 0 < (lg_cmp p0 62500)) ∧ (¬ 0 < (lg_cmp p0 31250)) ∧ (¬ 0 < (lg_cmp p0 15625)) ∧ (¬ 0 < (lg_cmp p0 7812)) ∧ (¬ 0 < (lg_cmp p0 3906)) ∧ (¬ 0 < (lg_cmp p0 1953)) ∧ (¬ 0 < (lg_cmp p0 976)) ∧ (¬ 0 < (lg_cmp p0 488)) ∧ (¬ 0 < (lg_cmp p0 244)) ∧ (¬ 0 < (lg_cmp p0 122)) ∧ (¬ 0 < (lg_cmp p0 61)) ∧ (¬ 0 < (lg_cmp p0 30)) ∧ (¬ 0 < (lg_cmp p0 15)) ∧ (¬ 0 < (lg_cmp p0 7)) ∧ (¬ 0 < (lg_cmp p0 3)) ∧ (0 < (lg_cmp p0 1)) ∧ (r = ((18432 + ((1024 * (3 - p0)) / 2))).toInt32)) ∨ ((0 < (lg_cmp p0 0)) ∧ ((lg_cmp p0 1000000) < 0) ∧ (¬ 0 < (lg_cmp p0 500000)) ∧ (¬ 0 < (lg_cmp p0 250000)) ∧ (¬ 0 < (lg_cmp p0 125000)) ∧ (¬ 0 < (lg_cmp p0 62500)) ∧ (¬ 0 < (lg_cmp p0 31250)) ∧ (¬ 0 < (lg_cmp p0 15625)) ∧ (¬ 0 < (lg_cmp p0 7812)) ∧ (¬ 0 < (lg_cmp p0 3906)) ∧ (¬ 0 < (lg_cmp p0 1953)) ∧ (¬ 0 < (lg_cmp p0 976)) ∧ (¬ 0 < (lg_cmp p0 488)) ∧ (¬ 0 < (lg_cmp p0 244)) ∧ (¬ 0 < (lg_cmp p0 122)) ∧ (¬ 0 < (lg_cmp p0 61)) ∧ (¬ 0 < (lg_cmp p0 30)) ∧ (¬ 0 < (lg_cmp p0 15)) ∧ (¬ 0 < (lg_cmp p0 7)) ∧ (¬ 0 < (lg_cmp p0 3)) ∧ (¬ 0 < (lg_cmp p0 1)) ∧ (r = ((19456 + ((1024 * (1 - p0)) / 1))).toInt32)) ∨ ((0 < (lg_cmp p0 0)) ∧ (¬ (lg_cmp p0 1000000) < 0) ∧ (r = 0)) ∨ ((¬ 0 < (lg_cmp p0 0)) ∧ (r = 32768)))) 0 0 (fun _ => False) := by
  refine Met.ofW (cc := cX6_cost) (maxL := 7) (ret := (some .int)) (by decide) rfl ?_
  intro p e s m args below meth c s₁ B hml hv
  obtain ⟨rfl, hP, hK⟩ := hv
  have hx := B.exec
  have hb := B.bytes
  have hr := B.returns
  have hts := atoms_spec (ws := wsX6_cost) B.pre
  have hown : s.vm.findClass RX6 = some m.cls := findClass_of_methodNamed B.named
  have hlocks := B.notSynchronized
  have hP : va_P D vwCl [] s.heap := hP
  have hl := lv_entry [.long p0] (n := 7) (Nat.le_of_ble_eq_true rfl)
  rw [lg_entry_eq]
  generalize (lg_sl [.long p0] ++ List.replicate (7 - (lg_sl [.long p0]).length) Slot.unset).toArray = ls at hl ⊢
  have hl : lv_has ls 7 [(0, .long p0)] := hl
  refine lv_lload_n hx hb dX6_cost_0 rfl (lv_at hl 0 rfl) ?_
  refine lv_lconst (v := 0) hx hb dX6_cost_1 (by decide) ?_
  refine W.lcmp hx hb dX6_cost_2 ?_
  refine lv_if_gt (tgt := 9) hx hb dX6_cost_3 (by decide) (fun c1 => ?_) (fun c1 => ?_)
  · skip
    refine lv_lload_n hx hb dX6_cost_9 rfl (lv_at hl 0 rfl) ?_
    refine lv_ldc2 (v := 1000000) hx hb hown (hts _ wd331_X6_cost) dX6_cost_10 ?_
    refine W.lcmp hx hb dX6_cost_13 ?_
    refine lv_if_lt (tgt := 19) hx hb dX6_cost_14 (by decide) (fun c2 => ?_) (fun c2 => ?_)
    · skip
      refine lv_iconst (v := 0) hx hb dX6_cost_19 (by decide) ?_
      refine lv_istore_n (lv' := [(2, .int 0), (0, .long p0)]) hx hb dX6_cost_20 rfl hl (by decide) rfl (fun ls hl => ?_)
      refine lv_ldc2 (v := 1000000) hx hb hown (hts _ wd331_X6_cost) dX6_cost_21 ?_
      refine lv_lstore_n (lv' := [(3, .long 1000000), (2, .int 0), (0, .long p0)]) hx hb dX6_cost_24 rfl hl (by decide) rfl (fun ls hl => ?_)
      refine lv_lload_n hx hb dX6_cost_25 rfl (lv_at hl 2 rfl) ?_
      refine lv_ldc (v := 1000000) hx hb hown (hts _ wd332_X6_cost) dX6_cost_26 ?_
      refine lv_iload_n hx hb dX6_cost_28 rfl (lv_at hl 1 rfl) ?_
      refine lv_iconst (v := 1) hx hb dX6_cost_29 (by decide) ?_
      refine lv_iadd hx hb dX6_cost_30 ?_
      refine tpi (v := 1) (by decide) ?_
      refine lv_ishr hx hb dX6_cost_31 ?_
      refine tpi (v := 500000) (by decide) ?_
      refine lv_i2l (v := 500000) hx hb dX6_cost_32 (by decide) ?_
      refine W.lcmp hx hb dX6_cost_33 ?_
      refine lv_if_gt (tgt := 43) hx hb dX6_cost_34 (by decide) (fun c3 => ?_) (fun c3 => ?_)
      · skip
        refine lv_ldc (v := 1000000) hx hb hown (hts _ wd332_X6_cost) dX6_cost_43 ?_
        refine lv_iload_n hx hb dX6_cost_45 rfl (lv_at hl 1 rfl) ?_
        refine lv_ishr hx hb dX6_cost_46 ?_
        refine tpi (v := 1000000) (by decide) ?_
        refine lv_i2l (v := 1000000) hx hb dX6_cost_47 (by decide) ?_
        refine lv_lstore_n (lv' := [(3, .long 1000000), (2, .int 0), (0, .long p0)]) hx hb dX6_cost_48 rfl hl (by decide) rfl (fun ls hl => ?_)
        refine lv_ldc (v := 1000000) hx hb hown (hts _ wd332_X6_cost) dX6_cost_49 ?_
        refine lv_iload_n hx hb dX6_cost_51 rfl (lv_at hl 1 rfl) ?_
        refine lv_iconst (v := 1) hx hb dX6_cost_52 (by decide) ?_
        refine lv_iadd hx hb dX6_cost_53 ?_
        refine tpi (v := 1) (by decide) ?_
        refine lv_ishr hx hb dX6_cost_54 ?_
        refine tpi (v := 500000) (by decide) ?_
        refine lv_i2l (v := 500000) hx hb dX6_cost_55 (by decide) ?_
        refine lv_lstore (lv' := [(5, .long 500000), (3, .long 1000000), (2, .int 0), (0, .long p0)]) hx hb dX6_cost_56 hl (by decide) rfl (fun ls hl => ?_)
        refine lv_sipush (v := 1024) hx hb dX6_cost_58 (by decide) ?_
        refine lv_iload_n hx hb dX6_cost_61 rfl (lv_at hl 2 rfl) ?_
        refine lv_imul hx hb dX6_cost_62 ?_
        refine tpi (v := 0) (by decide) ?_
        refine lv_i2l (v := 0) hx hb dX6_cost_63 (by decide) ?_
        refine lv_ldc2 (v := 1024) hx hb hown (hts _ wd333_X6_cost) dX6_cost_64 ?_
        refine lv_lload_n hx hb dX6_cost_67 rfl (lv_at hl 1 rfl) ?_
        refine lv_lload_n hx hb dX6_cost_68 rfl (lv_at hl 3 rfl) ?_
        refine lv_lsub hx hb dX6_cost_69 ?_
        refine lv_lmul hx hb dX6_cost_70 ?_
        refine lv_lload_n hx hb dX6_cost_71 rfl (lv_at hl 1 rfl) ?_
        refine lv_lload hx hb dX6_cost_72 (lv_at hl 0 rfl) ?_
        refine lv_lsub hx hb dX6_cost_74 ?_
        refine tpl (v := 500000) (by decide) ?_
        refine lv_ldiv hx hb dX6_cost_75 (by decide) ?_
        refine lv_ladd hx hb dX6_cost_76 ?_
        refine tpl (v := ((1024 * (1000000 - p0)) / 500000)) (Int64.zero_add _) ?_
        refine lv_l2i (v := (((1024 * (1000000 - p0)) / 500000)).toInt32) hx hb dX6_cost_77 rfl ?_
        exact W.iret (v := (((1024 * (1000000 - p0)) / 500000)).toInt32) hx hb hr (fun t ht hW => ⟨(((1024 * (1000000 - p0)) / 500000)).toInt32, rfl, (Or.inl ⟨c1, c2, c3, rfl⟩), ht⟩) (fun q hq => absurd hq List.not_mem_nil) dX6_cost_78
      · skip
        refine lv_iinc (v := 1) (lv' := [(2, .int 1), (3, .long 1000000), (0, .long p0)]) hx hb dX6_cost_37 hl (k := 1) rfl (by decide) (by decide) rfl (fun ls hl => ?_)
        refine lv_goto (tgt := 25) hx hb dX6_cost_40 (by decide) ?_
        refine lv_lload_n hx hb dX6_cost_25 rfl (lv_at hl 2 rfl) ?_
        refine lv_ldc (v := 1000000) hx hb hown (hts _ wd332_X6_cost) dX6_cost_26 ?_
        refine lv_iload_n hx hb dX6_cost_28 rfl (lv_at hl 0 rfl) ?_
        refine lv_iconst (v := 1) hx hb dX6_cost_29 (by decide) ?_
        refine lv_iadd hx hb dX6_cost_30 ?_
        refine tpi (v := 2) (by decide) ?_
        refine lv_ishr hx hb dX6_cost_31 ?_
        refine tpi (v := 250000) (by decide) ?_
        refine lv_i2l (v := 250000) hx hb dX6_cost_32 (by decide) ?_
        refine W.lcmp hx hb dX6_cost_33 ?_
        refine lv_if_gt (tgt := 43) hx hb dX6_cost_34 (by decide) (fun c4 => ?_) (fun c4 => ?_)
        · skip
          refine lv_ldc (v := 1000000) hx hb hown (hts _ wd332_X6_cost) dX6_cost_43 ?_
          refine lv_iload_n hx hb dX6_cost_45 rfl (lv_at hl 0 rfl) ?_
          refine lv_ishr hx hb dX6_cost_46 ?_
          refine tpi (v := 500000) (by decide) ?_
          refine lv_i2l (v := 500000) hx hb dX6_cost_47 (by decide) ?_
          refine lv_lstore_n (lv' := [(3, .long 500000), (2, .int 1), (0, .long p0)]) hx hb dX6_cost_48 rfl hl (by decide) rfl (fun ls hl => ?_)
          refine lv_ldc (v := 1000000) hx hb hown (hts _ wd332_X6_cost) dX6_cost_49 ?_
          refine lv_iload_n hx hb dX6_cost_51 rfl (lv_at hl 1 rfl) ?_
          refine lv_iconst (v := 1) hx hb dX6_cost_52 (by decide) ?_
          refine lv_iadd hx hb dX6_cost_53 ?_
          refine tpi (v := 2) (by decide) ?_
          refine lv_ishr hx hb dX6_cost_54 ?_
          refine tpi (v := 250000) (by decide) ?_
          refine lv_i2l (v := 250000) hx hb dX6_cost_55 (by decide) ?_
          refine lv_lstore (lv' := [(5, .long 250000), (3, .long 500000), (2, .int 1), (0, .long p0)]) hx hb dX6_cost_56 hl (by decide) rfl (fun ls hl => ?_)
          refine lv_sipush (v := 1024) hx hb dX6_cost_58 (by decide) ?_
          refine lv_iload_n hx hb dX6_cost_61 rfl (lv_at hl 2 rfl) ?_
          refine lv_imul hx hb dX6_cost_62 ?_
          refine tpi (v := 1024) (by decide) ?_
          refine lv_i2l (v := 1024) hx hb dX6_cost_63 (by decide) ?_
          refine lv_ldc2 (v := 1024) hx hb hown (hts _ wd333_X6_cost) dX6_cost_64 ?_
          refine lv_lload_n hx hb dX6_cost_67 rfl (lv_at hl 1 rfl) ?_
          refine lv_lload_n hx hb dX6_cost_68 rfl (lv_at hl 3 rfl) ?_
          refine lv_lsub hx hb dX6_cost_69 ?_
          refine lv_lmul hx hb dX6_cost_70 ?_
          refine lv_lload_n hx hb dX6_cost_71 rfl (lv_at hl 1 rfl) ?_
          refine lv_lload hx hb dX6_cost_72 (lv_at hl 0 rfl) ?_
          refine lv_lsub hx hb dX6_cost_74 ?_
          refine tpl (v := 250000) (by decide) ?_
          refine lv_ldiv hx hb dX6_cost_75 (by decide) ?_
          refine lv_ladd hx hb dX6_cost_76 ?_
          refine lv_l2i (v := ((1024 + ((1024 * (500000 - p0)) / 250000))).toInt32) hx hb dX6_cost_77 rfl ?_
          exact W.iret (v := ((1024 + ((1024 * (500000 - p0)) / 250000))).toInt32) hx hb hr (fun t ht hW => ⟨((1024 + ((1024 * (500000 - p0)) / 250000))).toInt32, rfl, (Or.inr (Or.inl ⟨c1, c2, c3, c4, rfl⟩)), ht⟩) (fun q hq => absurd hq List.not_mem_nil) dX6_cost_78
        · skip
          refine lv_iinc (v := 2) (lv' := [(2, .int 2), (3, .long 1000000), (0, .long p0)]) hx hb dX6_cost_37 hl (k := 0) rfl (by decide) (by decide) rfl (fun ls hl => ?_)
          refine lv_goto (tgt := 25) hx hb dX6_cost_40 (by decide) ?_
          refine lv_lload_n hx hb dX6_cost_25 rfl (lv_at hl 2 rfl) ?_
          refine lv_ldc (v := 1000000) hx hb hown (hts _ wd332_X6_cost) dX6_cost_26 ?_
          refine lv_iload_n hx hb dX6_cost_28 rfl (lv_at hl 0 rfl) ?_
          refine lv_iconst (v := 1) hx hb dX6_cost_29 (by decide) ?_
          refine lv_iadd hx hb dX6_cost_30 ?_
          refine tpi (v := 3) (by decide) ?_
          refine lv_ishr hx hb dX6_cost_31 ?_
          refine tpi (v := 125000) (by decide) ?_
          refine lv_i2l (v := 125000) hx hb dX6_cost_32 (by decide) ?_
          refine W.lcmp hx hb dX6_cost_33 ?_
          refine lv_if_gt (tgt := 43) hx hb dX6_cost_34 (by decide) (fun c5 => ?_) (fun c5 => ?_)
          · skip
            refine lv_ldc (v := 1000000) hx hb hown (hts _ wd332_X6_cost) dX6_cost_43 ?_
            refine lv_iload_n hx hb dX6_cost_45 rfl (lv_at hl 0 rfl) ?_
            refine lv_ishr hx hb dX6_cost_46 ?_
            refine tpi (v := 250000) (by decide) ?_
            refine lv_i2l (v := 250000) hx hb dX6_cost_47 (by decide) ?_
            refine lv_lstore_n (lv' := [(3, .long 250000), (2, .int 2), (0, .long p0)]) hx hb dX6_cost_48 rfl hl (by decide) rfl (fun ls hl => ?_)
            refine lv_ldc (v := 1000000) hx hb hown (hts _ wd332_X6_cost) dX6_cost_49 ?_
            refine lv_iload_n hx hb dX6_cost_51 rfl (lv_at hl 1 rfl) ?_
            refine lv_iconst (v := 1) hx hb dX6_cost_52 (by decide) ?_
            refine lv_iadd hx hb dX6_cost_53 ?_
            refine tpi (v := 3) (by decide) ?_
            refine lv_ishr hx hb dX6_cost_54 ?_
            refine tpi (v := 125000) (by decide) ?_
            refine lv_i2l (v := 125000) hx hb dX6_cost_55 (by decide) ?_
            refine lv_lstore (lv' := [(5, .long 125000), (3, .long 250000), (2, .int 2), (0, .long p0)]) hx hb dX6_cost_56 hl (by decide) rfl (fun ls hl => ?_)
            refine lv_sipush (v := 1024) hx hb dX6_cost_58 (by decide) ?_
            refine lv_iload_n hx hb dX6_cost_61 rfl (lv_at hl 2 rfl) ?_
            refine lv_imul hx hb dX6_cost_62 ?_
            refine tpi (v := 2048) (by decide) ?_
            refine lv_i2l (v := 2048) hx hb dX6_cost_63 (by decide) ?_
            refine lv_ldc2 (v := 1024) hx hb hown (hts _ wd333_X6_cost) dX6_cost_64 ?_
            refine lv_lload_n hx hb dX6_cost_67 rfl (lv_at hl 1 rfl) ?_
            refine lv_lload_n hx hb dX6_cost_68 rfl (lv_at hl 3 rfl) ?_
            refine lv_lsub hx hb dX6_cost_69 ?_
            refine lv_lmul hx hb dX6_cost_70 ?_
            refine lv_lload_n hx hb dX6_cost_71 rfl (lv_at hl 1 rfl) ?_
            refine lv_lload hx hb dX6_cost_72 (lv_at hl 0 rfl) ?_
            refine lv_lsub hx hb dX6_cost_74 ?_
            refine tpl (v := 125000) (by decide) ?_
            refine lv_ldiv hx hb dX6_cost_75 (by decide) ?_
            refine lv_ladd hx hb dX6_cost_76 ?_
            refine lv_l2i (v := ((2048 + ((1024 * (250000 - p0)) / 125000))).toInt32) hx hb dX6_cost_77 rfl ?_
            exact W.iret (v := ((2048 + ((1024 * (250000 - p0)) / 125000))).toInt32) hx hb hr (fun t ht hW => ⟨((2048 + ((1024 * (250000 - p0)) / 125000))).toInt32, rfl, (Or.inr (Or.inr (Or.inl ⟨c1, c2, c3, c4, c5, rfl⟩))), ht⟩) (fun q hq => absurd hq List.not_mem_nil) dX6_cost_78
          · skip
            refine lv_iinc (v := 3) (lv' := [(2, .int 3), (3, .long 1000000), (0, .long p0)]) hx hb dX6_cost_37 hl (k := 0) rfl (by decide) (by decide) rfl (fun ls hl => ?_)
            refine lv_goto (tgt := 25) hx hb dX6_cost_40 (by decide) ?_
            refine lv_lload_n hx hb dX6_cost_25 rfl (lv_at hl 2 rfl) ?_
            refine lv_ldc (v := 1000000) hx hb hown (hts _ wd332_X6_cost) dX6_cost_26 ?_
            refine lv_iload_n hx hb dX6_cost_28 rfl (lv_at hl 0 rfl) ?_
            refine lv_iconst (v := 1) hx hb dX6_cost_29 (by decide) ?_
            refine lv_iadd hx hb dX6_cost_30 ?_
            refine tpi (v := 4) (by decide) ?_
            refine lv_ishr hx hb dX6_cost_31 ?_
            refine tpi (v := 62500) (by decide) ?_
            refine lv_i2l (v := 62500) hx hb dX6_cost_32 (by decide) ?_
            refine W.lcmp hx hb dX6_cost_33 ?_
            refine lv_if_gt (tgt := 43) hx hb dX6_cost_34 (by decide) (fun c6 => ?_) (fun c6 => ?_)
            · skip
              refine lv_ldc (v := 1000000) hx hb hown (hts _ wd332_X6_cost) dX6_cost_43 ?_
              refine lv_iload_n hx hb dX6_cost_45 rfl (lv_at hl 0 rfl) ?_
              refine lv_ishr hx hb dX6_cost_46 ?_
              refine tpi (v := 125000) (by decide) ?_
              refine lv_i2l (v := 125000) hx hb dX6_cost_47 (by decide) ?_
              refine lv_lstore_n (lv' := [(3, .long 125000), (2, .int 3), (0, .long p0)]) hx hb dX6_cost_48 rfl hl (by decide) rfl (fun ls hl => ?_)
              refine lv_ldc (v := 1000000) hx hb hown (hts _ wd332_X6_cost) dX6_cost_49 ?_
              refine lv_iload_n hx hb dX6_cost_51 rfl (lv_at hl 1 rfl) ?_
              refine lv_iconst (v := 1) hx hb dX6_cost_52 (by decide) ?_
              refine lv_iadd hx hb dX6_cost_53 ?_
              refine tpi (v := 4) (by decide) ?_
              refine lv_ishr hx hb dX6_cost_54 ?_
              refine tpi (v := 62500) (by decide) ?_
              refine lv_i2l (v := 62500) hx hb dX6_cost_55 (by decide) ?_
              refine lv_lstore (lv' := [(5, .long 62500), (3, .long 125000), (2, .int 3), (0, .long p0)]) hx hb dX6_cost_56 hl (by decide) rfl (fun ls hl => ?_)
              refine lv_sipush (v := 1024) hx hb dX6_cost_58 (by decide) ?_
              refine lv_iload_n hx hb dX6_cost_61 rfl (lv_at hl 2 rfl) ?_
              refine lv_imul hx hb dX6_cost_62 ?_
              refine tpi (v := 3072) (by decide) ?_
              refine lv_i2l (v := 3072) hx hb dX6_cost_63 (by decide) ?_
              refine lv_ldc2 (v := 1024) hx hb hown (hts _ wd333_X6_cost) dX6_cost_64 ?_
              refine lv_lload_n hx hb dX6_cost_67 rfl (lv_at hl 1 rfl) ?_
              refine lv_lload_n hx hb dX6_cost_68 rfl (lv_at hl 3 rfl) ?_
              refine lv_lsub hx hb dX6_cost_69 ?_
              refine lv_lmul hx hb dX6_cost_70 ?_
              refine lv_lload_n hx hb dX6_cost_71 rfl (lv_at hl 1 rfl) ?_
              refine lv_lload hx hb dX6_cost_72 (lv_at hl 0 rfl) ?_
              refine lv_lsub hx hb dX6_cost_74 ?_
              refine tpl (v := 62500) (by decide) ?_
              refine lv_ldiv hx hb dX6_cost_75 (by decide) ?_
              refine lv_ladd hx hb dX6_cost_76 ?_
              refine lv_l2i (v := ((3072 + ((1024 * (125000 - p0)) / 62500))).toInt32) hx hb dX6_cost_77 rfl ?_
              exact W.iret (v := ((3072 + ((1024 * (125000 - p0)) / 62500))).toInt32) hx hb hr (fun t ht hW => ⟨((3072 + ((1024 * (125000 - p0)) / 62500))).toInt32, rfl, (Or.inr (Or.inr (Or.inr (Or.inl ⟨c1, c2, c3, c4, c5, c6, rfl⟩)))), ht⟩) (fun q hq => absurd hq List.not_mem_nil) dX6_cost_78
            · skip
              refine lv_iinc (v := 4) (lv' := [(2, .int 4), (3, .long 1000000), (0, .long p0)]) hx hb dX6_cost_37 hl (k := 0) rfl (by decide) (by decide) rfl (fun ls hl => ?_)
              refine lv_goto (tgt := 25) hx hb dX6_cost_40 (by decide) ?_
              refine lv_lload_n hx hb dX6_cost_25 rfl (lv_at hl 2 rfl) ?_
              refine lv_ldc (v := 1000000) hx hb hown (hts _ wd332_X6_cost) dX6_cost_26 ?_
              refine lv_iload_n hx hb dX6_cost_28 rfl (lv_at hl 0 rfl) ?_
              refine lv_iconst (v := 1) hx hb dX6_cost_29 (by decide) ?_
              refine lv_iadd hx hb dX6_cost_30 ?_
              refine tpi (v := 5) (by decide) ?_
              refine lv_ishr hx hb dX6_cost_31 ?_
              refine tpi (v := 31250) (by decide) ?_
              refine lv_i2l (v := 31250) hx hb dX6_cost_32 (by decide) ?_
              refine W.lcmp hx hb dX6_cost_33 ?_
              refine lv_if_gt (tgt := 43) hx hb dX6_cost_34 (by decide) (fun c7 => ?_) (fun c7 => ?_)
              · skip
                refine lv_ldc (v := 1000000) hx hb hown (hts _ wd332_X6_cost) dX6_cost_43 ?_
                refine lv_iload_n hx hb dX6_cost_45 rfl (lv_at hl 0 rfl) ?_
                refine lv_ishr hx hb dX6_cost_46 ?_
                refine tpi (v := 62500) (by decide) ?_
                refine lv_i2l (v := 62500) hx hb dX6_cost_47 (by decide) ?_
                refine lv_lstore_n (lv' := [(3, .long 62500), (2, .int 4), (0, .long p0)]) hx hb dX6_cost_48 rfl hl (by decide) rfl (fun ls hl => ?_)
                refine lv_ldc (v := 1000000) hx hb hown (hts _ wd332_X6_cost) dX6_cost_49 ?_
                refine lv_iload_n hx hb dX6_cost_51 rfl (lv_at hl 1 rfl) ?_
                refine lv_iconst (v := 1) hx hb dX6_cost_52 (by decide) ?_
                refine lv_iadd hx hb dX6_cost_53 ?_
                refine tpi (v := 5) (by decide) ?_
                refine lv_ishr hx hb dX6_cost_54 ?_
                refine tpi (v := 31250) (by decide) ?_
                refine lv_i2l (v := 31250) hx hb dX6_cost_55 (by decide) ?_
                refine lv_lstore (lv' := [(5, .long 31250), (3, .long 62500), (2, .int 4), (0, .long p0)]) hx hb dX6_cost_56 hl (by decide) rfl (fun ls hl => ?_)
                refine lv_sipush (v := 1024) hx hb dX6_cost_58 (by decide) ?_
                refine lv_iload_n hx hb dX6_cost_61 rfl (lv_at hl 2 rfl) ?_
                refine lv_imul hx hb dX6_cost_62 ?_
                refine tpi (v := 4096) (by decide) ?_
                refine lv_i2l (v := 4096) hx hb dX6_cost_63 (by decide) ?_
                refine lv_ldc2 (v := 1024) hx hb hown (hts _ wd333_X6_cost) dX6_cost_64 ?_
                refine lv_lload_n hx hb dX6_cost_67 rfl (lv_at hl 1 rfl) ?_
                refine lv_lload_n hx hb dX6_cost_68 rfl (lv_at hl 3 rfl) ?_
                refine lv_lsub hx hb dX6_cost_69 ?_
                refine lv_lmul hx hb dX6_cost_70 ?_
                refine lv_lload_n hx hb dX6_cost_71 rfl (lv_at hl 1 rfl) ?_
                refine lv_lload hx hb dX6_cost_72 (lv_at hl 0 rfl) ?_
                refine lv_lsub hx hb dX6_cost_74 ?_
                refine tpl (v := 31250) (by decide) ?_
                refine lv_ldiv hx hb dX6_cost_75 (by decide) ?_
                refine lv_ladd hx hb dX6_cost_76 ?_
                refine lv_l2i (v := ((4096 + ((1024 * (62500 - p0)) / 31250))).toInt32) hx hb dX6_cost_77 rfl ?_
                exact W.iret (v := ((4096 + ((1024 * (62500 - p0)) / 31250))).toInt32) hx hb hr (fun t ht hW => ⟨((4096 + ((1024 * (62500 - p0)) / 31250))).toInt32, rfl, (Or.inr (Or.inr (Or.inr (Or.inr (Or.inl ⟨c1, c2, c3, c4, c5, c6, c7, rfl⟩))))), ht⟩) (fun q hq => absurd hq List.not_mem_nil) dX6_cost_78
              · skip
                refine lv_iinc (v := 5) (lv' := [(2, .int 5), (3, .long 1000000), (0, .long p0)]) hx hb dX6_cost_37 hl (k := 0) rfl (by decide) (by decide) rfl (fun ls hl => ?_)
                refine lv_goto (tgt := 25) hx hb dX6_cost_40 (by decide) ?_
                refine lv_lload_n hx hb dX6_cost_25 rfl (lv_at hl 2 rfl) ?_
                refine lv_ldc (v := 1000000) hx hb hown (hts _ wd332_X6_cost) dX6_cost_26 ?_
                refine lv_iload_n hx hb dX6_cost_28 rfl (lv_at hl 0 rfl) ?_
                refine lv_iconst (v := 1) hx hb dX6_cost_29 (by decide) ?_
                refine lv_iadd hx hb dX6_cost_30 ?_
                refine tpi (v := 6) (by decide) ?_
                refine lv_ishr hx hb dX6_cost_31 ?_
                refine tpi (v := 15625) (by decide) ?_
                refine lv_i2l (v := 15625) hx hb dX6_cost_32 (by decide) ?_
                refine W.lcmp hx hb dX6_cost_33 ?_
                refine lv_if_gt (tgt := 43) hx hb dX6_cost_34 (by decide) (fun c8 => ?_) (fun c8 => ?_)
                · skip
                  refine lv_ldc (v := 1000000) hx hb hown (hts _ wd332_X6_cost) dX6_cost_43 ?_
                  refine lv_iload_n hx hb dX6_cost_45 rfl (lv_at hl 0 rfl) ?_
                  refine lv_ishr hx hb dX6_cost_46 ?_
                  refine tpi (v := 31250) (by decide) ?_
                  refine lv_i2l (v := 31250) hx hb dX6_cost_47 (by decide) ?_
                  refine lv_lstore_n (lv' := [(3, .long 31250), (2, .int 5), (0, .long p0)]) hx hb dX6_cost_48 rfl hl (by decide) rfl (fun ls hl => ?_)
                  refine lv_ldc (v := 1000000) hx hb hown (hts _ wd332_X6_cost) dX6_cost_49 ?_
                  refine lv_iload_n hx hb dX6_cost_51 rfl (lv_at hl 1 rfl) ?_
                  refine lv_iconst (v := 1) hx hb dX6_cost_52 (by decide) ?_
                  refine lv_iadd hx hb dX6_cost_53 ?_
                  refine tpi (v := 6) (by decide) ?_
                  refine lv_ishr hx hb dX6_cost_54 ?_
                  refine tpi (v := 15625) (by decide) ?_
                  refine lv_i2l (v := 15625) hx hb dX6_cost_55 (by decide) ?_
                  refine lv_lstore (lv' := [(5, .long 15625), (3, .long 31250), (2, .int 5), (0, .long p0)]) hx hb dX6_cost_56 hl (by decide) rfl (fun ls hl => ?_)
                  refine lv_sipush (v := 1024) hx hb dX6_cost_58 (by decide) ?_
                  refine lv_iload_n hx hb dX6_cost_61 rfl (lv_at hl 2 rfl) ?_
                  refine lv_imul hx hb dX6_cost_62 ?_
                  refine tpi (v := 5120) (by decide) ?_
                  refine lv_i2l (v := 5120) hx hb dX6_cost_63 (by decide) ?_
                  refine lv_ldc2 (v := 1024) hx hb hown (hts _ wd333_X6_cost) dX6_cost_64 ?_
                  refine lv_lload_n hx hb dX6_cost_67 rfl (lv_at hl 1 rfl) ?_
                  refine lv_lload_n hx hb dX6_cost_68 rfl (lv_at hl 3 rfl) ?_
                  refine lv_lsub hx hb dX6_cost_69 ?_
                  refine lv_lmul hx hb dX6_cost_70 ?_
                  refine lv_lload_n hx hb dX6_cost_71 rfl (lv_at hl 1 rfl) ?_
                  refine lv_lload hx hb dX6_cost_72 (lv_at hl 0 rfl) ?_
                  refine lv_lsub hx hb dX6_cost_74 ?_
                  refine tpl (v := 15625) (by decide) ?_
                  refine lv_ldiv hx hb dX6_cost_75 (by decide) ?_
                  refine lv_ladd hx hb dX6_cost_76 ?_
                  refine lv_l2i (v := ((5120 + ((1024 * (31250 - p0)) / 15625))).toInt32) hx hb dX6_cost_77 rfl ?_
                  exact W.iret (v := ((5120 + ((1024 * (31250 - p0)) / 15625))).toInt32) hx hb hr (fun t ht hW => ⟨((5120 + ((1024 * (31250 - p0)) / 15625))).toInt32, rfl, (Or.inr (Or.inr (Or.inr (Or.inr (Or.inr (Or.inl ⟨c1, c2, c3, c4, c5, c6, c7, c8, rfl⟩)))))), ht⟩) (fun q hq => absurd hq List.not_mem_nil) dX6_cost_78
                · skip
                  refine lv_iinc (v := 6) (lv' := [(2, .int 6), (3, .long 1000000), (0, .long p0)]) hx hb dX6_cost_37 hl (k := 0) rfl (by decide) (by decide) rfl (fun ls hl => ?_)
                  refine lv_goto (tgt := 25) hx hb dX6_cost_40 (by decide) ?_
                  refine lv_lload_n hx hb dX6_cost_25 rfl (lv_at hl 2 rfl) ?_
                  refine lv_ldc (v := 1000000) hx hb hown (hts _ wd332_X6_cost) dX6_cost_26 ?_
                  refine lv_iload_n hx hb dX6_cost_28 rfl (lv_at hl 0 rfl) ?_
                  refine lv_iconst (v := 1) hx hb dX6_cost_29 (by decide) ?_
                  refine lv_iadd hx hb dX6_cost_30 ?_
                  refine tpi (v := 7) (by decide) ?_
                  refine lv_ishr hx hb dX6_cost_31 ?_
                  refine tpi (v := 7812) (by decide) ?_
                  refine lv_i2l (v := 7812) hx hb dX6_cost_32 (by decide) ?_
                  refine W.lcmp hx hb dX6_cost_33 ?_
                  refine lv_if_gt (tgt := 43) hx hb dX6_cost_34 (by decide) (fun c9 => ?_) (fun c9 => ?_)
                  · skip
                    refine lv_ldc (v := 1000000) hx hb hown (hts _ wd332_X6_cost) dX6_cost_43 ?_
                    refine lv_iload_n hx hb dX6_cost_45 rfl (lv_at hl 0 rfl) ?_
                    refine lv_ishr hx hb dX6_cost_46 ?_
                    refine tpi (v := 15625) (by decide) ?_
                    refine lv_i2l (v := 15625) hx hb dX6_cost_47 (by decide) ?_
                    refine lv_lstore_n (lv' := [(3, .long 15625), (2, .int 6), (0, .long p0)]) hx hb dX6_cost_48 rfl hl (by decide) rfl (fun ls hl => ?_)
                    refine lv_ldc (v := 1000000) hx hb hown (hts _ wd332_X6_cost) dX6_cost_49 ?_
                    refine lv_iload_n hx hb dX6_cost_51 rfl (lv_at hl 1 rfl) ?_
                    refine lv_iconst (v := 1) hx hb dX6_cost_52 (by decide) ?_
                    refine lv_iadd hx hb dX6_cost_53 ?_
                    refine tpi (v := 7) (by decide) ?_
                    refine lv_ishr hx hb dX6_cost_54 ?_
                    refine tpi (v := 7812) (by decide) ?_
                    refine lv_i2l (v := 7812) hx hb dX6_cost_55 (by decide) ?_
                    refine lv_lstore (lv' := [(5, .long 7812), (3, .long 15625), (2, .int 6), (0, .long p0)]) hx hb dX6_cost_56 hl (by decide) rfl (fun ls hl => ?_)
                    refine lv_sipush (v := 1024) hx hb dX6_cost_58 (by decide) ?_
                    refine lv_iload_n hx hb dX6_cost_61 rfl (lv_at hl 2 rfl) ?_
                    refine lv_imul hx hb dX6_cost_62 ?_
                    refine tpi (v := 6144) (by decide) ?_
                    refine lv_i2l (v := 6144) hx hb dX6_cost_63 (by decide) ?_
                    refine lv_ldc2 (v := 1024) hx hb hown (hts _ wd333_X6_cost) dX6_cost_64 ?_
                    refine lv_lload_n hx hb dX6_cost_67 rfl (lv_at hl 1 rfl) ?_
                    refine lv_lload_n hx hb dX6_cost_68 rfl (lv_at hl 3 rfl) ?_
                    refine lv_lsub hx hb dX6_cost_69 ?_
                    refine lv_lmul hx hb dX6_cost_70 ?_
                    refine lv_lload_n hx hb dX6_cost_71 rfl (lv_at hl 1 rfl) ?_
                    refine lv_lload hx hb dX6_cost_72 (lv_at hl 0 rfl) ?_
                    refine lv_lsub hx hb dX6_cost_74 ?_
                    refine tpl (v := 7813) (by decide) ?_
                    refine lv_ldiv hx hb dX6_cost_75 (by decide) ?_
                    refine lv_ladd hx hb dX6_cost_76 ?_
                    refine lv_l2i (v := ((6144 + ((1024 * (15625 - p0)) / 7813))).toInt32) hx hb dX6_cost_77 rfl ?_
                    exact W.iret (v := ((6144 + ((1024 * (15625 - p0)) / 7813))).toInt32) hx hb hr (fun t ht hW => ⟨((6144 + ((1024 * (15625 - p0)) / 7813))).toInt32, rfl, (Or.inr (Or.inr (Or.inr (Or.inr (Or.inr (Or.inr (Or.inl ⟨c1, c2, c3, c4, c5, c6, c7, c8, c9, rfl⟩))))))), ht⟩) (fun q hq => absurd hq List.not_mem_nil) dX6_cost_78
                  · skip
                    refine lv_iinc (v := 7) (lv' := [(2, .int 7), (3, .long 1000000), (0, .long p0)]) hx hb dX6_cost_37 hl (k := 0) rfl (by decide) (by decide) rfl (fun ls hl => ?_)
                    refine lv_goto (tgt := 25) hx hb dX6_cost_40 (by decide) ?_
                    refine lv_lload_n hx hb dX6_cost_25 rfl (lv_at hl 2 rfl) ?_
                    refine lv_ldc (v := 1000000) hx hb hown (hts _ wd332_X6_cost) dX6_cost_26 ?_
                    refine lv_iload_n hx hb dX6_cost_28 rfl (lv_at hl 0 rfl) ?_
                    refine lv_iconst (v := 1) hx hb dX6_cost_29 (by decide) ?_
                    refine lv_iadd hx hb dX6_cost_30 ?_
                    refine tpi (v := 8) (by decide) ?_
                    refine lv_ishr hx hb dX6_cost_31 ?_
                    refine tpi (v := 3906) (by decide) ?_
                    refine lv_i2l (v := 3906) hx hb dX6_cost_32 (by decide) ?_
                    refine W.lcmp hx hb dX6_cost_33 ?_
                    refine lv_if_gt (tgt := 43) hx hb dX6_cost_34 (by decide) (fun c10 => ?_) (fun c10 => ?_)
                    · skip
                      refine lv_ldc (v := 1000000) hx hb hown (hts _ wd332_X6_cost) dX6_cost_43 ?_
                      refine lv_iload_n hx hb dX6_cost_45 rfl (lv_at hl 0 rfl) ?_
                      refine lv_ishr hx hb dX6_cost_46 ?_
                      refine tpi (v := 7812) (by decide) ?_
                      refine lv_i2l (v := 7812) hx hb dX6_cost_47 (by decide) ?_
                      refine lv_lstore_n (lv' := [(3, .long 7812), (2, .int 7), (0, .long p0)]) hx hb dX6_cost_48 rfl hl (by decide) rfl (fun ls hl => ?_)
                      refine lv_ldc (v := 1000000) hx hb hown (hts _ wd332_X6_cost) dX6_cost_49 ?_
                      refine lv_iload_n hx hb dX6_cost_51 rfl (lv_at hl 1 rfl) ?_
                      refine lv_iconst (v := 1) hx hb dX6_cost_52 (by decide) ?_
                      refine lv_iadd hx hb dX6_cost_53 ?_
                      refine tpi (v := 8) (by decide) ?_
                      refine lv_ishr hx hb dX6_cost_54 ?_
                      refine tpi (v := 3906) (by decide) ?_
                      refine lv_i2l (v := 3906) hx hb dX6_cost_55 (by decide) ?_
                      refine lv_lstore (lv' := [(5, .long 3906), (3, .long 7812), (2, .int 7), (0, .long p0)]) hx hb dX6_cost_56 hl (by decide) rfl (fun ls hl => ?_)
                      refine lv_sipush (v := 1024) hx hb dX6_cost_58 (by decide) ?_
                      refine lv_iload_n hx hb dX6_cost_61 rfl (lv_at hl 2 rfl) ?_
                      refine lv_imul hx hb dX6_cost_62 ?_
                      refine tpi (v := 7168) (by decide) ?_
                      refine lv_i2l (v := 7168) hx hb dX6_cost_63 (by decide) ?_
                      refine lv_ldc2 (v := 1024) hx hb hown (hts _ wd333_X6_cost) dX6_cost_64 ?_
                      refine lv_lload_n hx hb dX6_cost_67 rfl (lv_at hl 1 rfl) ?_
                      refine lv_lload_n hx hb dX6_cost_68 rfl (lv_at hl 3 rfl) ?_
                      refine lv_lsub hx hb dX6_cost_69 ?_
                      refine lv_lmul hx hb dX6_cost_70 ?_
                      refine lv_lload_n hx hb dX6_cost_71 rfl (lv_at hl 1 rfl) ?_
                      refine lv_lload hx hb dX6_cost_72 (lv_at hl 0 rfl) ?_
                      refine lv_lsub hx hb dX6_cost_74 ?_
                      refine tpl (v := 3906) (by decide) ?_
                      refine lv_ldiv hx hb dX6_cost_75 (by decide) ?_
                      refine lv_ladd hx hb dX6_cost_76 ?_
                      refine lv_l2i (v := ((7168 + ((1024 * (7812 - p0)) / 3906))).toInt32) hx hb dX6_cost_77 rfl ?_
                      exact W.iret (v := ((7168 + ((1024 * (7812 - p0)) / 3906))).toInt32) hx hb hr (fun t ht hW => ⟨((7168 + ((1024 * (7812 - p0)) / 3906))).toInt32, rfl, (Or.inr (Or.inr (Or.inr (Or.inr (Or.inr (Or.inr (Or.inr (Or.inl ⟨c1, c2, c3, c4, c5, c6, c7, c8, c9, c10, rfl⟩)))))))), ht⟩) (fun q hq => absurd hq List.not_mem_nil) dX6_cost_78
                    · skip
                      refine lv_iinc (v := 8) (lv' := [(2, .int 8), (3, .long 1000000), (0, .long p0)]) hx hb dX6_cost_37 hl (k := 0) rfl (by decide) (by decide) rfl (fun ls hl => ?_)
                      refine lv_goto (tgt := 25) hx hb dX6_cost_40 (by decide) ?_
                      refine lv_lload_n hx hb dX6_cost_25 rfl (lv_at hl 2 rfl) ?_
                      refine lv_ldc (v := 1000000) hx hb hown (hts _ wd332_X6_cost) dX6_cost_26 ?_
                      refine lv_iload_n hx hb dX6_cost_28 rfl (lv_at hl 0 rfl) ?_
                      refine lv_iconst (v := 1) hx hb dX6_cost_29 (by decide) ?_
                      refine lv_iadd hx hb dX6_cost_30 ?_
                      refine tpi (v := 9) (by decide) ?_
                      refine lv_ishr hx hb dX6_cost_31 ?_
                      refine tpi (v := 1953) (by decide) ?_
                      refine lv_i2l (v := 1953) hx hb dX6_cost_32 (by decide) ?_
                      refine W.lcmp hx hb dX6_cost_33 ?_
                      refine lv_if_gt (tgt := 43) hx hb dX6_cost_34 (by decide) (fun c11 => ?_) (fun c11 => ?_)
                      · skip
                        refine lv_ldc (v := 1000000) hx hb hown (hts _ wd332_X6_cost) dX6_cost_43 ?_
                        refine lv_iload_n hx hb dX6_cost_45 rfl (lv_at hl 0 rfl) ?_
                        refine lv_ishr hx hb dX6_cost_46 ?_
                        refine tpi (v := 3906) (by decide) ?_
                        refine lv_i2l (v := 3906) hx hb dX6_cost_47 (by decide) ?_
                        refine lv_lstore_n (lv' := [(3, .long 3906), (2, .int 8), (0, .long p0)]) hx hb dX6_cost_48 rfl hl (by decide) rfl (fun ls hl => ?_)
                        refine lv_ldc (v := 1000000) hx hb hown (hts _ wd332_X6_cost) dX6_cost_49 ?_
                        refine lv_iload_n hx hb dX6_cost_51 rfl (lv_at hl 1 rfl) ?_
                        refine lv_iconst (v := 1) hx hb dX6_cost_52 (by decide) ?_
                        refine lv_iadd hx hb dX6_cost_53 ?_
                        refine tpi (v := 9) (by decide) ?_
                        refine lv_ishr hx hb dX6_cost_54 ?_
                        refine tpi (v := 1953) (by decide) ?_
                        refine lv_i2l (v := 1953) hx hb dX6_cost_55 (by decide) ?_
                        refine lv_lstore (lv' := [(5, .long 1953), (3, .long 3906), (2, .int 8), (0, .long p0)]) hx hb dX6_cost_56 hl (by decide) rfl (fun ls hl => ?_)
                        refine lv_sipush (v := 1024) hx hb dX6_cost_58 (by decide) ?_
                        refine lv_iload_n hx hb dX6_cost_61 rfl (lv_at hl 2 rfl) ?_
                        refine lv_imul hx hb dX6_cost_62 ?_
                        refine tpi (v := 8192) (by decide) ?_
                        refine lv_i2l (v := 8192) hx hb dX6_cost_63 (by decide) ?_
                        refine lv_ldc2 (v := 1024) hx hb hown (hts _ wd333_X6_cost) dX6_cost_64 ?_
                        refine lv_lload_n hx hb dX6_cost_67 rfl (lv_at hl 1 rfl) ?_
                        refine lv_lload_n hx hb dX6_cost_68 rfl (lv_at hl 3 rfl) ?_
                        refine lv_lsub hx hb dX6_cost_69 ?_
                        refine lv_lmul hx hb dX6_cost_70 ?_
                        refine lv_lload_n hx hb dX6_cost_71 rfl (lv_at hl 1 rfl) ?_
                        refine lv_lload hx hb dX6_cost_72 (lv_at hl 0 rfl) ?_
                        refine lv_lsub hx hb dX6_cost_74 ?_
                        refine tpl (v := 1953) (by decide) ?_
                        refine lv_ldiv hx hb dX6_cost_75 (by decide) ?_
                        refine lv_ladd hx hb dX6_cost_76 ?_
                        refine lv_l2i (v := ((8192 + ((1024 * (3906 - p0)) / 1953))).toInt32) hx hb dX6_cost_77 rfl ?_
                        exact W.iret (v := ((8192 + ((1024 * (3906 - p0)) / 1953))).toInt32) hx hb hr (fun t ht hW => ⟨((8192 + ((1024 * (3906 - p0)) / 1953))).toInt32, rfl, (Or.inr (Or.inr (Or.inr (Or.inr (Or.inr (Or.inr (Or.inr (Or.inr (Or.inl ⟨c1, c2, c3, c4, c5, c6, c7, c8, c9, c10, c11, rfl⟩))))))))), ht⟩) (fun q hq => absurd hq List.not_mem_nil) dX6_cost_78
                      · skip
                        refine lv_iinc (v := 9) (lv' := [(2, .int 9), (3, .long 1000000), (0, .long p0)]) hx hb dX6_cost_37 hl (k := 0) rfl (by decide) (by decide) rfl (fun ls hl => ?_)
                        refine lv_goto (tgt := 25) hx hb dX6_cost_40 (by decide) ?_
                        refine lv_lload_n hx hb dX6_cost_25 rfl (lv_at hl 2 rfl) ?_
                        refine lv_ldc (v := 1000000) hx hb hown (hts _ wd332_X6_cost) dX6_cost_26 ?_
                        refine lv_iload_n hx hb dX6_cost_28 rfl (lv_at hl 0 rfl) ?_
                        refine lv_iconst (v := 1) hx hb dX6_cost_29 (by decide) ?_
                        refine lv_iadd hx hb dX6_cost_30 ?_
                        refine tpi (v := 10) (by decide) ?_
                        refine lv_ishr hx hb dX6_cost_31 ?_
                        refine tpi (v := 976) (by decide) ?_
                        refine lv_i2l (v := 976) hx hb dX6_cost_32 (by decide) ?_
                        refine W.lcmp hx hb dX6_cost_33 ?_
                        refine lv_if_gt (tgt := 43) hx hb dX6_cost_34 (by decide) (fun c12 => ?_) (fun c12 => ?_)
                        · skip
                          refine lv_ldc (v := 1000000) hx hb hown (hts _ wd332_X6_cost) dX6_cost_43 ?_
                          refine lv_iload_n hx hb dX6_cost_45 rfl (lv_at hl 0 rfl) ?_
                          refine lv_ishr hx hb dX6_cost_46 ?_
                          refine tpi (v := 1953) (by decide) ?_
                          refine lv_i2l (v := 1953) hx hb dX6_cost_47 (by decide) ?_
                          refine lv_lstore_n (lv' := [(3, .long 1953), (2, .int 9), (0, .long p0)]) hx hb dX6_cost_48 rfl hl (by decide) rfl (fun ls hl => ?_)
                          refine lv_ldc (v := 1000000) hx hb hown (hts _ wd332_X6_cost) dX6_cost_49 ?_
                          refine lv_iload_n hx hb dX6_cost_51 rfl (lv_at hl 1 rfl) ?_
                          refine lv_iconst (v := 1) hx hb dX6_cost_52 (by decide) ?_
                          refine lv_iadd hx hb dX6_cost_53 ?_
                          refine tpi (v := 10) (by decide) ?_
                          refine lv_ishr hx hb dX6_cost_54 ?_
                          refine tpi (v := 976) (by decide) ?_
                          refine lv_i2l (v := 976) hx hb dX6_cost_55 (by decide) ?_
                          refine lv_lstore (lv' := [(5, .long 976), (3, .long 1953), (2, .int 9), (0, .long p0)]) hx hb dX6_cost_56 hl (by decide) rfl (fun ls hl => ?_)
                          refine lv_sipush (v := 1024) hx hb dX6_cost_58 (by decide) ?_
                          refine lv_iload_n hx hb dX6_cost_61 rfl (lv_at hl 2 rfl) ?_
                          refine lv_imul hx hb dX6_cost_62 ?_
                          refine tpi (v := 9216) (by decide) ?_
                          refine lv_i2l (v := 9216) hx hb dX6_cost_63 (by decide) ?_
                          refine lv_ldc2 (v := 1024) hx hb hown (hts _ wd333_X6_cost) dX6_cost_64 ?_
                          refine lv_lload_n hx hb dX6_cost_67 rfl (lv_at hl 1 rfl) ?_
                          refine lv_lload_n hx hb dX6_cost_68 rfl (lv_at hl 3 rfl) ?_
                          refine lv_lsub hx hb dX6_cost_69 ?_
                          refine lv_lmul hx hb dX6_cost_70 ?_
                          refine lv_lload_n hx hb dX6_cost_71 rfl (lv_at hl 1 rfl) ?_
                          refine lv_lload hx hb dX6_cost_72 (lv_at hl 0 rfl) ?_
                          refine lv_lsub hx hb dX6_cost_74 ?_
                          refine tpl (v := 977) (by decide) ?_
                          refine lv_ldiv hx hb dX6_cost_75 (by decide) ?_
                          refine lv_ladd hx hb dX6_cost_76 ?_
                          refine lv_l2i (v := ((9216 + ((1024 * (1953 - p0)) / 977))).toInt32) hx hb dX6_cost_77 rfl ?_
                          exact W.iret (v := ((9216 + ((1024 * (1953 - p0)) / 977))).toInt32) hx hb hr (fun t ht hW => ⟨((9216 + ((1024 * (1953 - p0)) / 977))).toInt32, rfl, (Or.inr (Or.inr (Or.inr (Or.inr (Or.inr (Or.inr (Or.inr (Or.inr (Or.inr (Or.inl ⟨c1, c2, c3, c4, c5, c6, c7, c8, c9, c10, c11, c12, rfl⟩)))))))))), ht⟩) (fun q hq => absurd hq List.not_mem_nil) dX6_cost_78
                        · skip
                          refine lv_iinc (v := 10) (lv' := [(2, .int 10), (3, .long 1000000), (0, .long p0)]) hx hb dX6_cost_37 hl (k := 0) rfl (by decide) (by decide) rfl (fun ls hl => ?_)
                          refine lv_goto (tgt := 25) hx hb dX6_cost_40 (by decide) ?_
                          refine lv_lload_n hx hb dX6_cost_25 rfl (lv_at hl 2 rfl) ?_
                          refine lv_ldc (v := 1000000) hx hb hown (hts _ wd332_X6_cost) dX6_cost_26 ?_
                          refine lv_iload_n hx hb dX6_cost_28 rfl (lv_at hl 0 rfl) ?_
                          refine lv_iconst (v := 1) hx hb dX6_cost_29 (by decide) ?_
                          refine lv_iadd hx hb dX6_cost_30 ?_
                          refine tpi (v := 11) (by decide) ?_
                          refine lv_ishr hx hb dX6_cost_31 ?_
                          refine tpi (v := 488) (by decide) ?_
                          refine lv_i2l (v := 488) hx hb dX6_cost_32 (by decide) ?_
                          refine W.lcmp hx hb dX6_cost_33 ?_
                          refine lv_if_gt (tgt := 43) hx hb dX6_cost_34 (by decide) (fun c13 => ?_) (fun c13 => ?_)
                          · skip
                            refine lv_ldc (v := 1000000) hx hb hown (hts _ wd332_X6_cost) dX6_cost_43 ?_
                            refine lv_iload_n hx hb dX6_cost_45 rfl (lv_at hl 0 rfl) ?_
                            refine lv_ishr hx hb dX6_cost_46 ?_
                            refine tpi (v := 976) (by decide) ?_
                            refine lv_i2l (v := 976) hx hb dX6_cost_47 (by decide) ?_
                            refine lv_lstore_n (lv' := [(3, .long 976), (2, .int 10), (0, .long p0)]) hx hb dX6_cost_48 rfl hl (by decide) rfl (fun ls hl => ?_)
                            refine lv_ldc (v := 1000000) hx hb hown (hts _ wd332_X6_cost) dX6_cost_49 ?_
                            refine lv_iload_n hx hb dX6_cost_51 rfl (lv_at hl 1 rfl) ?_
                            refine lv_iconst (v := 1) hx hb dX6_cost_52 (by decide) ?_
                            refine lv_iadd hx hb dX6_cost_53 ?_
                            refine tpi (v := 11) (by decide) ?_
                            refine lv_ishr hx hb dX6_cost_54 ?_
                            refine tpi (v := 488) (by decide) ?_
                            refine lv_i2l (v := 488) hx hb dX6_cost_55 (by decide) ?_
                            refine lv_lstore (lv' := [(5, .long 488), (3, .long 976), (2, .int 10), (0, .long p0)]) hx hb dX6_cost_56 hl (by decide) rfl (fun ls hl => ?_)
                            refine lv_sipush (v := 1024) hx hb dX6_cost_58 (by decide) ?_
                            refine lv_iload_n hx hb dX6_cost_61 rfl (lv_at hl 2 rfl) ?_
                            refine lv_imul hx hb dX6_cost_62 ?_
                            refine tpi (v := 10240) (by decide) ?_
                            refine lv_i2l (v := 10240) hx hb dX6_cost_63 (by decide) ?_
                            refine lv_ldc2 (v := 1024) hx hb hown (hts _ wd333_X6_cost) dX6_cost_64 ?_
                            refine lv_lload_n hx hb dX6_cost_67 rfl (lv_at hl 1 rfl) ?_
                            refine lv_lload_n hx hb dX6_cost_68 rfl (lv_at hl 3 rfl) ?_
                            refine lv_lsub hx hb dX6_cost_69 ?_
                            refine lv_lmul hx hb dX6_cost_70 ?_
                            refine lv_lload_n hx hb dX6_cost_71 rfl (lv_at hl 1 rfl) ?_
                            refine lv_lload hx hb dX6_cost_72 (lv_at hl 0 rfl) ?_
                            refine lv_lsub hx hb dX6_cost_74 ?_
                            refine tpl (v := 488) (by decide) ?_
                            refine lv_ldiv hx hb dX6_cost_75 (by decide) ?_
                            refine lv_ladd hx hb dX6_cost_76 ?_
                            refine lv_l2i (v := ((10240 + ((1024 * (976 - p0)) / 488))).toInt32) hx hb dX6_cost_77 rfl ?_
                            exact W.iret (v := ((10240 + ((1024 * (976 - p0)) / 488))).toInt32) hx hb hr (fun t ht hW => ⟨((10240 + ((1024 * (976 - p0)) / 488))).toInt32, rfl, (Or.inr (Or.inr (Or.inr (Or.inr (Or.inr (Or.inr (Or.inr (Or.inr (Or.inr (Or.inr (Or.inl ⟨c1, c2, c3, c4, c5, c6, c7, c8, c9, c10, c11, c12, c13, rfl⟩))))))))))), ht⟩) (fun q hq => absurd hq List.not_mem_nil) dX6_cost_78
                          · skip
                            refine lv_iinc (v := 11) (lv' := [(2, .int 11), (3, .long 1000000), (0, .long p0)]) hx hb dX6_cost_37 hl (k := 0) rfl (by decide) (by decide) rfl (fun ls hl => ?_)
                            refine lv_goto (tgt := 25) hx hb dX6_cost_40 (by decide) ?_
                            refine lv_lload_n hx hb dX6_cost_25 rfl (lv_at hl 2 rfl) ?_
                            refine lv_ldc (v := 1000000) hx hb hown (hts _ wd332_X6_cost) dX6_cost_26 ?_
                            refine lv_iload_n hx hb dX6_cost_28 rfl (lv_at hl 0 rfl) ?_
                            refine lv_iconst (v := 1) hx hb dX6_cost_29 (by decide) ?_
                            refine lv_iadd hx hb dX6_cost_30 ?_
                            refine tpi (v := 12) (by decide) ?_
                            refine lv_ishr hx hb dX6_cost_31 ?_
                            refine tpi (v := 244) (by decide) ?_
                            refine lv_i2l (v := 244) hx hb dX6_cost_32 (by decide) ?_
                            refine W.lcmp hx hb dX6_cost_33 ?_
                            refine lv_if_gt (tgt := 43) hx hb dX6_cost_34 (by decide) (fun c14 => ?_) (fun c14 => ?_)
                            · skip
                              refine lv_ldc (v := 1000000) hx hb hown (hts _ wd332_X6_cost) dX6_cost_43 ?_
                              refine lv_iload_n hx hb dX6_cost_45 rfl (lv_at hl 0 rfl) ?_
                              refine lv_ishr hx hb dX6_cost_46 ?_
                              refine tpi (v := 488) (by decide) ?_
                              refine lv_i2l (v := 488) hx hb dX6_cost_47 (by decide) ?_
                              refine lv_lstore_n (lv' := [(3, .long 488), (2, .int 11), (0, .long p0)]) hx hb dX6_cost_48 rfl hl (by decide) rfl (fun ls hl => ?_)
                              refine lv_ldc (v := 1000000) hx hb hown (hts _ wd332_X6_cost) dX6_cost_49 ?_
                              refine lv_iload_n hx hb dX6_cost_51 rfl (lv_at hl 1 rfl) ?_
                              refine lv_iconst (v := 1) hx hb dX6_cost_52 (by decide) ?_
                              refine lv_iadd hx hb dX6_cost_53 ?_
                              refine tpi (v := 12) (by decide) ?_
                              refine lv_ishr hx hb dX6_cost_54 ?_
                              refine tpi (v := 244) (by decide) ?_
                              refine lv_i2l (v := 244) hx hb dX6_cost_55 (by decide) ?_
                              refine lv_lstore (lv' := [(5, .long 244), (3, .long 488), (2, .int 11), (0, .long p0)]) hx hb dX6_cost_56 hl (by decide) rfl (fun ls hl => ?_)
                              refine lv_sipush (v := 1024) hx hb dX6_cost_58 (by decide) ?_
                              refine lv_iload_n hx hb dX6_cost_61 rfl (lv_at hl 2 rfl) ?_
                              refine lv_imul hx hb dX6_cost_62 ?_
                              refine tpi (v := 11264) (by decide) ?_
                              refine lv_i2l (v := 11264) hx hb dX6_cost_63 (by decide) ?_
                              refine lv_ldc2 (v := 1024) hx hb hown (hts _ wd333_X6_cost) dX6_cost_64 ?_
                              refine lv_lload_n hx hb dX6_cost_67 rfl (lv_at hl 1 rfl) ?_
                              refine lv_lload_n hx hb dX6_cost_68 rfl (lv_at hl 3 rfl) ?_
                              refine lv_lsub hx hb dX6_cost_69 ?_
                              refine lv_lmul hx hb dX6_cost_70 ?_
                              refine lv_lload_n hx hb dX6_cost_71 rfl (lv_at hl 1 rfl) ?_
                              refine lv_lload hx hb dX6_cost_72 (lv_at hl 0 rfl) ?_
                              refine lv_lsub hx hb dX6_cost_74 ?_
                              refine tpl (v := 244) (by decide) ?_
                              refine lv_ldiv hx hb dX6_cost_75 (by decide) ?_
                              refine lv_ladd hx hb dX6_cost_76 ?_
                              refine lv_l2i (v := ((11264 + ((1024 * (488 - p0)) / 244))).toInt32) hx hb dX6_cost_77 rfl ?_
                              exact W.iret (v := ((11264 + ((1024 * (488 - p0)) / 244))).toInt32) hx hb hr (fun t ht hW => ⟨((11264 + ((1024 * (488 - p0)) / 244))).toInt32, rfl, (Or.inr (Or.inr (Or.inr (Or.inr (Or.inr (Or.inr (Or.inr (Or.inr (Or.inr (Or.inr (Or.inr (Or.inl ⟨c1, c2, c3, c4, c5, c6, c7, c8, c9, c10, c11, c12, c13, c14, rfl⟩)))))))))))), ht⟩) (fun q hq => absurd hq List.not_mem_nil) dX6_cost_78
                            · skip
                              refine lv_iinc (v := 12) (lv' := [(2, .int 12), (3, .long 1000000), (0, .long p0)]) hx hb dX6_cost_37 hl (k := 0) rfl (by decide) (by decide) rfl (fun ls hl => ?_)
                              refine lv_goto (tgt := 25) hx hb dX6_cost_40 (by decide) ?_
                              refine lv_lload_n hx hb dX6_cost_25 rfl (lv_at hl 2 rfl) ?_
                              refine lv_ldc (v := 1000000) hx hb hown (hts _ wd332_X6_cost) dX6_cost_26 ?_
                              refine lv_iload_n hx hb dX6_cost_28 rfl (lv_at hl 0 rfl) ?_
                              refine lv_iconst (v := 1) hx hb dX6_cost_29 (by decide) ?_
                              refine lv_iadd hx hb dX6_cost_30 ?_
                              refine tpi (v := 13) (by decide) ?_
                              refine lv_ishr hx hb dX6_cost_31 ?_
                              refine tpi (v := 122) (by decide) ?_
                              refine lv_i2l (v := 122) hx hb dX6_cost_32 (by decide) ?_
                              refine W.lcmp hx hb dX6_cost_33 ?_
                              refine lv_if_gt (tgt := 43) hx hb dX6_cost_34 (by decide) (fun c15 => ?_) (fun c15 => ?_)
                              · skip
                                refine lv_ldc (v := 1000000) hx hb hown (hts _ wd332_X6_cost) dX6_cost_43 ?_
                                refine lv_iload_n hx hb dX6_cost_45 rfl (lv_at hl 0 rfl) ?_
                                refine lv_ishr hx hb dX6_cost_46 ?_
                                refine tpi (v := 244) (by decide) ?_
                                refine lv_i2l (v := 244) hx hb dX6_cost_47 (by decide) ?_
                                refine lv_lstore_n (lv' := [(3, .long 244), (2, .int 12), (0, .long p0)]) hx hb dX6_cost_48 rfl hl (by decide) rfl (fun ls hl => ?_)
                                refine lv_ldc (v := 1000000) hx hb hown (hts _ wd332_X6_cost) dX6_cost_49 ?_
                                refine lv_iload_n hx hb dX6_cost_51 rfl (lv_at hl 1 rfl) ?_
                                refine lv_iconst (v := 1) hx hb dX6_cost_52 (by decide) ?_
                                refine lv_iadd hx hb dX6_cost_53 ?_
                                refine tpi (v := 13) (by decide) ?_
                                refine lv_ishr hx hb dX6_cost_54 ?_
                                refine tpi (v := 122) (by decide) ?_
                                refine lv_i2l (v := 122) hx hb dX6_cost_55 (by decide) ?_
                                refine lv_lstore (lv' := [(5, .long 122), (3, .long 244), (2, .int 12), (0, .long p0)]) hx hb dX6_cost_56 hl (by decide) rfl (fun ls hl => ?_)
                                refine lv_sipush (v := 1024) hx hb dX6_cost_58 (by decide) ?_
                                refine lv_iload_n hx hb dX6_cost_61 rfl (lv_at hl 2 rfl) ?_
                                refine lv_imul hx hb dX6_cost_62 ?_
                                refine tpi (v := 12288) (by decide) ?_
                                refine lv_i2l (v := 12288) hx hb dX6_cost_63 (by decide) ?_
                                refine lv_ldc2 (v := 1024) hx hb hown (hts _ wd333_X6_cost) dX6_cost_64 ?_
                                refine lv_lload_n hx hb dX6_cost_67 rfl (lv_at hl 1 rfl) ?_
                                refine lv_lload_n hx hb dX6_cost_68 rfl (lv_at hl 3 rfl) ?_
                                refine lv_lsub hx hb dX6_cost_69 ?_
                                refine lv_lmul hx hb dX6_cost_70 ?_
                                refine lv_lload_n hx hb dX6_cost_71 rfl (lv_at hl 1 rfl) ?_
                                refine lv_lload hx hb dX6_cost_72 (lv_at hl 0 rfl) ?_
                                refine lv_lsub hx hb dX6_cost_74 ?_
                                refine tpl (v := 122) (by decide) ?_
                                refine lv_ldiv hx hb dX6_cost_75 (by decide) ?_
                                refine lv_ladd hx hb dX6_cost_76 ?_
                                refine lv_l2i (v := ((12288 + ((1024 * (244 - p0)) / 122))).toInt32) hx hb dX6_cost_77 rfl ?_
                                exact W.iret (v := ((12288 + ((1024 * (244 - p0)) / 122))).toInt32) hx hb hr (fun t ht hW => ⟨((12288 + ((1024 * (244 - p0)) / 122))).toInt32, rfl, (Or.inr (Or.inr (Or.inr (Or.inr (Or.inr (Or.inr (Or.inr (Or.inr (Or.inr (Or.inr (Or.inr (Or.inr (Or.inl ⟨c1, c2, c3, c4, c5, c6, c7, c8, c9, c10, c11, c12, c13, c14, c15, rfl⟩))))))))))))), ht⟩) (fun q hq => absurd hq List.not_mem_nil) dX6_cost_78
                              · skip
                                refine lv_iinc (v := 13) (lv' := [(2, .int 13), (3, .long 1000000), (0, .long p0)]) hx hb dX6_cost_37 hl (k := 0) rfl (by decide) (by decide) rfl (fun ls hl => ?_)
                                refine lv_goto (tgt := 25) hx hb dX6_cost_40 (by decide) ?_
                                refine lv_lload_n hx hb dX6_cost_25 rfl (lv_at hl 2 rfl) ?_
                                refine lv_ldc (v := 1000000) hx hb hown (hts _ wd332_X6_cost) dX6_cost_26 ?_
                                refine lv_iload_n hx hb dX6_cost_28 rfl (lv_at hl 0 rfl) ?_
                                refine lv_iconst (v := 1) hx hb dX6_cost_29 (by decide) ?_
                                refine lv_iadd hx hb dX6_cost_30 ?_
                                refine tpi (v := 14) (by decide) ?_
                                refine lv_ishr hx hb dX6_cost_31 ?_
                                refine tpi (v := 61) (by decide) ?_
                                refine lv_i2l (v := 61) hx hb dX6_cost_32 (by decide) ?_
                                refine W.lcmp hx hb dX6_cost_33 ?_
                                refine lv_if_gt (tgt := 43) hx hb dX6_cost_34 (by decide) (fun c16 => ?_) (fun c16 => ?_)
                                · skip
                                  refine lv_ldc (v := 1000000) hx hb hown (hts _ wd332_X6_cost) dX6_cost_43 ?_
                                  refine lv_iload_n hx hb dX6_cost_45 rfl (lv_at hl 0 rfl) ?_
                                  refine lv_ishr hx hb dX6_cost_46 ?_
                                  refine tpi (v := 122) (by decide) ?_
                                  refine lv_i2l (v := 122) hx hb dX6_cost_47 (by decide) ?_
                                  refine lv_lstore_n (lv' := [(3, .long 122), (2, .int 13), (0, .long p0)]) hx hb dX6_cost_48 rfl hl (by decide) rfl (fun ls hl => ?_)
                                  refine lv_ldc (v := 1000000) hx hb hown (hts _ wd332_X6_cost) dX6_cost_49 ?_
                                  refine lv_iload_n hx hb dX6_cost_51 rfl (lv_at hl 1 rfl) ?_
                                  refine lv_iconst (v := 1) hx hb dX6_cost_52 (by decide) ?_
                                  refine lv_iadd hx hb dX6_cost_53 ?_
                                  refine tpi (v := 14) (by decide) ?_
                                  refine lv_ishr hx hb dX6_cost_54 ?_
                                  refine tpi (v := 61) (by decide) ?_
                                  refine lv_i2l (v := 61) hx hb dX6_cost_55 (by decide) ?_
                                  refine lv_lstore (lv' := [(5, .long 61), (3, .long 122), (2, .int 13), (0, .long p0)]) hx hb dX6_cost_56 hl (by decide) rfl (fun ls hl => ?_)
                                  refine lv_sipush (v := 1024) hx hb dX6_cost_58 (by decide) ?_
                                  refine lv_iload_n hx hb dX6_cost_61 rfl (lv_at hl 2 rfl) ?_
                                  refine lv_imul hx hb dX6_cost_62 ?_
                                  refine tpi (v := 13312) (by decide) ?_
                                  refine lv_i2l (v := 13312) hx hb dX6_cost_63 (by decide) ?_
                                  refine lv_ldc2 (v := 1024) hx hb hown (hts _ wd333_X6_cost) dX6_cost_64 ?_
                                  refine lv_lload_n hx hb dX6_cost_67 rfl (lv_at hl 1 rfl) ?_
                                  refine lv_lload_n hx hb dX6_cost_68 rfl (lv_at hl 3 rfl) ?_
                                  refine lv_lsub hx hb dX6_cost_69 ?_
                                  refine lv_lmul hx hb dX6_cost_70 ?_
                                  refine lv_lload_n hx hb dX6_cost_71 rfl (lv_at hl 1 rfl) ?_
                                  refine lv_lload hx hb dX6_cost_72 (lv_at hl 0 rfl) ?_
                                  refine lv_lsub hx hb dX6_cost_74 ?_
                                  refine tpl (v := 61) (by decide) ?_
                                  refine lv_ldiv hx hb dX6_cost_75 (by decide) ?_
                                  refine lv_ladd hx hb dX6_cost_76 ?_
                                  refine lv_l2i (v := ((13312 + ((1024 * (122 - p0)) / 61))).toInt32) hx hb dX6_cost_77 rfl ?_
                                  exact W.iret (v := ((13312 + ((1024 * (122 - p0)) / 61))).toInt32) hx hb hr (fun t ht hW => ⟨((13312 + ((1024 * (122 - p0)) / 61))).toInt32, rfl, (Or.inr (Or.inr (Or.inr (Or.inr (Or.inr (Or.inr (Or.inr (Or.inr (Or.inr (Or.inr (Or.inr (Or.inr (Or.inr (Or.inl ⟨c1, c2, c3, c4, c5, c6, c7, c8, c9, c10, c11, c12, c13, c14, c15, c16, rfl⟩)))))))))))))), ht⟩) (fun q hq => absurd hq List.not_mem_nil) dX6_cost_78
                                · skip
                                  refine lv_iinc (v := 14) (lv' := [(2, .int 14), (3, .long 1000000), (0, .long p0)]) hx hb dX6_cost_37 hl (k := 0) rfl (by decide) (by decide) rfl (fun ls hl => ?_)
                                  refine lv_goto (tgt := 25) hx hb dX6_cost_40 (by decide) ?_
                                  refine lv_lload_n hx hb dX6_cost_25 rfl (lv_at hl 2 rfl) ?_
                                  refine lv_ldc (v := 1000000) hx hb hown (hts _ wd332_X6_cost) dX6_cost_26 ?_
                                  refine lv_iload_n hx hb dX6_cost_28 rfl (lv_at hl 0 rfl) ?_
                                  refine lv_iconst (v := 1) hx hb dX6_cost_29 (by decide) ?_
                                  refine lv_iadd hx hb dX6_cost_30 ?_
                                  refine tpi (v := 15) (by decide) ?_
                                  refine lv_ishr hx hb dX6_cost_31 ?_
                                  refine tpi (v := 30) (by decide) ?_
                                  refine lv_i2l (v := 30) hx hb dX6_cost_32 (by decide) ?_
                                  refine W.lcmp hx hb dX6_cost_33 ?_
                                  refine lv_if_gt (tgt := 43) hx hb dX6_cost_34 (by decide) (fun c17 => ?_) (fun c17 => ?_)
                                  · skip
                                    refine lv_ldc (v := 1000000) hx hb hown (hts _ wd332_X6_cost) dX6_cost_43 ?_
                                    refine lv_iload_n hx hb dX6_cost_45 rfl (lv_at hl 0 rfl) ?_
                                    refine lv_ishr hx hb dX6_cost_46 ?_
                                    refine tpi (v := 61) (by decide) ?_
                                    refine lv_i2l (v := 61) hx hb dX6_cost_47 (by decide) ?_
                                    refine lv_lstore_n (lv' := [(3, .long 61), (2, .int 14), (0, .long p0)]) hx hb dX6_cost_48 rfl hl (by decide) rfl (fun ls hl => ?_)
                                    refine lv_ldc (v := 1000000) hx hb hown (hts _ wd332_X6_cost) dX6_cost_49 ?_
                                    refine lv_iload_n hx hb dX6_cost_51 rfl (lv_at hl 1 rfl) ?_
                                    refine lv_iconst (v := 1) hx hb dX6_cost_52 (by decide) ?_
                                    refine lv_iadd hx hb dX6_cost_53 ?_
                                    refine tpi (v := 15) (by decide) ?_
                                    refine lv_ishr hx hb dX6_cost_54 ?_
                                    refine tpi (v := 30) (by decide) ?_
                                    refine lv_i2l (v := 30) hx hb dX6_cost_55 (by decide) ?_
                                    refine lv_lstore (lv' := [(5, .long 30), (3, .long 61), (2, .int 14), (0, .long p0)]) hx hb dX6_cost_56 hl (by decide) rfl (fun ls hl => ?_)
                                    refine lv_sipush (v := 1024) hx hb dX6_cost_58 (by decide) ?_
                                    refine lv_iload_n hx hb dX6_cost_61 rfl (lv_at hl 2 rfl) ?_
                                    refine lv_imul hx hb dX6_cost_62 ?_
                                    refine tpi (v := 14336) (by decide) ?_
                                    refine lv_i2l (v := 14336) hx hb dX6_cost_63 (by decide) ?_
                                    refine lv_ldc2 (v := 1024) hx hb hown (hts _ wd333_X6_cost) dX6_cost_64 ?_
                                    refine lv_lload_n hx hb dX6_cost_67 rfl (lv_at hl 1 rfl) ?_
                                    refine lv_lload_n hx hb dX6_cost_68 rfl (lv_at hl 3 rfl) ?_
                                    refine lv_lsub hx hb dX6_cost_69 ?_
                                    refine lv_lmul hx hb dX6_cost_70 ?_
                                    refine lv_lload_n hx hb dX6_cost_71 rfl (lv_at hl 1 rfl) ?_
                                    refine lv_lload hx hb dX6_cost_72 (lv_at hl 0 rfl) ?_
                                    refine lv_lsub hx hb dX6_cost_74 ?_
                                    refine tpl (v := 31) (by decide) ?_
                                    refine lv_ldiv hx hb dX6_cost_75 (by decide) ?_
                                    refine lv_ladd hx hb dX6_cost_76 ?_
                                    refine lv_l2i (v := ((14336 + ((1024 * (61 - p0)) / 31))).toInt32) hx hb dX6_cost_77 rfl ?_
                                    exact W.iret (v := ((14336 + ((1024 * (61 - p0)) / 31))).toInt32) hx hb hr (fun t ht hW => ⟨((14336 + ((1024 * (61 - p0)) / 31))).toInt32, rfl, (Or.inr (Or.inr (Or.inr (Or.inr (Or.inr (Or.inr (Or.inr (Or.inr (Or.inr (Or.inr (Or.inr (Or.inr (Or.inr (Or.inr (Or.inl ⟨c1, c2, c3, c4, c5, c6, c7, c8, c9, c10, c11, c12, c13, c14, c15, c16, c17, rfl⟩))))))))))))))), ht⟩) (fun q hq => absurd hq List.not_mem_nil) dX6_cost_78
                                  · skip
                                    refine lv_iinc (v := 15) (lv' := [(2, .int 15), (3, .long 1000000), (0, .long p0)]) hx hb dX6_cost_37 hl (k := 0) rfl (by decide) (by decide) rfl (fun ls hl => ?_)
                                    refine lv_goto (tgt := 25) hx hb dX6_cost_40 (by decide) ?_
                                    refine lv_lload_n hx hb dX6_cost_25 rfl (lv_at hl 2 rfl) ?_
                                    refine lv_ldc (v := 1000000) hx hb hown (hts _ wd332_X6_cost) dX6_cost_26 ?_
                                    refine lv_iload_n hx hb dX6_cost_28 rfl (lv_at hl 0 rfl) ?_
                                    refine lv_iconst (v := 1) hx hb dX6_cost_29 (by decide) ?_
                                    refine lv_iadd hx hb dX6_cost_30 ?_
                                    refine tpi (v := 16) (by decide) ?_
                                    refine lv_ishr hx hb dX6_cost_31 ?_
                                    refine tpi (v := 15) (by decide) ?_
                                    refine lv_i2l (v := 15) hx hb dX6_cost_32 (by decide) ?_
                                    refine W.lcmp hx hb dX6_cost_33 ?_
                                    refine lv_if_gt (tgt := 43) hx hb dX6_cost_34 (by decide) (fun c18 => ?_) (fun c18 => ?_)
                                    · skip
                                      refine lv_ldc (v := 1000000) hx hb hown (hts _ wd332_X6_cost) dX6_cost_43 ?_
                                      refine lv_iload_n hx hb dX6_cost_45 rfl (lv_at hl 0 rfl) ?_
                                      refine lv_ishr hx hb dX6_cost_46 ?_
                                      refine tpi (v := 30) (by decide) ?_
                                      refine lv_i2l (v := 30) hx hb dX6_cost_47 (by decide) ?_
                                      refine lv_lstore_n (lv' := [(3, .long 30), (2, .int 15), (0, .long p0)]) hx hb dX6_cost_48 rfl hl (by decide) rfl (fun ls hl => ?_)
                                      refine lv_ldc (v := 1000000) hx hb hown (hts _ wd332_X6_cost) dX6_cost_49 ?_
                                      refine lv_iload_n hx hb dX6_cost_51 rfl (lv_at hl 1 rfl) ?_
                                      refine lv_iconst (v := 1) hx hb dX6_cost_52 (by decide) ?_
                                      refine lv_iadd hx hb dX6_cost_53 ?_
                                      refine tpi (v := 16) (by decide) ?_
                                      refine lv_ishr hx hb dX6_cost_54 ?_
                                      refine tpi (v := 15) (by decide) ?_
                                      refine lv_i2l (v := 15) hx hb dX6_cost_55 (by decide) ?_
                                      refine lv_lstore (lv' := [(5, .long 15), (3, .long 30), (2, .int 15), (0, .long p0)]) hx hb dX6_cost_56 hl (by decide) rfl (fun ls hl => ?_)
                                      refine lv_sipush (v := 1024) hx hb dX6_cost_58 (by decide) ?_
                                      refine lv_iload_n hx hb dX6_cost_61 rfl (lv_at hl 2 rfl) ?_
                                      refine lv_imul hx hb dX6_cost_62 ?_
                                      refine tpi (v := 15360) (by decide) ?_
                                      refine lv_i2l (v := 15360) hx hb dX6_cost_63 (by decide) ?_
                                      refine lv_ldc2 (v := 1024) hx hb hown (hts _ wd333_X6_cost) dX6_cost_64 ?_
                                      refine lv_lload_n hx hb dX6_cost_67 rfl (lv_at hl 1 rfl) ?_
                                      refine lv_lload_n hx hb dX6_cost_68 rfl (lv_at hl 3 rfl) ?_
                                      refine lv_lsub hx hb dX6_cost_69 ?_
                                      refine lv_lmul hx hb dX6_cost_70 ?_
                                      refine lv_lload_n hx hb dX6_cost_71 rfl (lv_at hl 1 rfl) ?_
                                      refine lv_lload hx hb dX6_cost_72 (lv_at hl 0 rfl) ?_
                                      refine lv_lsub hx hb dX6_cost_74 ?_
                                      refine tpl (v := 15) (by decide) ?_
                                      refine lv_ldiv hx hb dX6_cost_75 (by decide) ?_
                                      refine lv_ladd hx hb dX6_cost_76 ?_
                                      refine lv_l2i (v := ((15360 + ((1024 * (30 - p0)) / 15))).toInt32) hx hb dX6_cost_77 rfl ?_
                                      exact W.iret (v := ((15360 + ((1024 * (30 - p0)) / 15))).toInt32) hx hb hr (fun t ht hW => ⟨((15360 + ((1024 * (30 - p0)) / 15))).toInt32, rfl, (Or.inr (Or.inr (Or.inr (Or.inr (Or.inr (Or.inr (Or.inr (Or.inr (Or.inr (Or.inr (Or.inr (Or.inr (Or.inr (Or.inr (Or.inr (Or.inl ⟨c1, c2, c3, c4, c5, c6, c7, c8, c9, c10, c11, c12, c13, c14, c15, c16, c17, c18, rfl⟩)))))))))))))))), ht⟩) (fun q hq => absurd hq List.not_mem_nil) dX6_cost_78
                                    · skip
                                      refine lv_iinc (v := 16) (lv' := [(2, .int 16), (3, .long 1000000), (0, .long p0)]) hx hb dX6_cost_37 hl (k := 0) rfl (by decide) (by decide) rfl (fun ls hl => ?_)
                                      refine lv_goto (tgt := 25) hx hb dX6_cost_40 (by decide) ?_
                                      refine lv_lload_n hx hb dX6_cost_25 rfl (lv_at hl 2 rfl) ?_
                                      refine lv_ldc (v := 1000000) hx hb hown (hts _ wd332_X6_cost) dX6_cost_26 ?_
                                      refine lv_iload_n hx hb dX6_cost_28 rfl (lv_at hl 0 rfl) ?_
                                      refine lv_iconst (v := 1) hx hb dX6_cost_29 (by decide) ?_
                                      refine lv_iadd hx hb dX6_cost_30 ?_
                                      refine tpi (v := 17) (by decide) ?_
                                      refine lv_ishr hx hb dX6_cost_31 ?_
                                      refine tpi (v := 7) (by decide) ?_
                                      refine lv_i2l (v := 7) hx hb dX6_cost_32 (by decide) ?_
                                      refine W.lcmp hx hb dX6_cost_33 ?_
                                      refine lv_if_gt (tgt := 43) hx hb dX6_cost_34 (by decide) (fun c19 => ?_) (fun c19 => ?_)
                                      · skip
                                        refine lv_ldc (v := 1000000) hx hb hown (hts _ wd332_X6_cost) dX6_cost_43 ?_
                                        refine lv_iload_n hx hb dX6_cost_45 rfl (lv_at hl 0 rfl) ?_
                                        refine lv_ishr hx hb dX6_cost_46 ?_
                                        refine tpi (v := 15) (by decide) ?_
                                        refine lv_i2l (v := 15) hx hb dX6_cost_47 (by decide) ?_
                                        refine lv_lstore_n (lv' := [(3, .long 15), (2, .int 16), (0, .long p0)]) hx hb dX6_cost_48 rfl hl (by decide) rfl (fun ls hl => ?_)
                                        refine lv_ldc (v := 1000000) hx hb hown (hts _ wd332_X6_cost) dX6_cost_49 ?_
                                        refine lv_iload_n hx hb dX6_cost_51 rfl (lv_at hl 1 rfl) ?_
                                        refine lv_iconst (v := 1) hx hb dX6_cost_52 (by decide) ?_
                                        refine lv_iadd hx hb dX6_cost_53 ?_
                                        refine tpi (v := 17) (by decide) ?_
                                        refine lv_ishr hx hb dX6_cost_54 ?_
                                        refine tpi (v := 7) (by decide) ?_
                                        refine lv_i2l (v := 7) hx hb dX6_cost_55 (by decide) ?_
                                        refine lv_lstore (lv' := [(5, .long 7), (3, .long 15), (2, .int 16), (0, .long p0)]) hx hb dX6_cost_56 hl (by decide) rfl (fun ls hl => ?_)
                                        refine lv_sipush (v := 1024) hx hb dX6_cost_58 (by decide) ?_
                                        refine lv_iload_n hx hb dX6_cost_61 rfl (lv_at hl 2 rfl) ?_
                                        refine lv_imul hx hb dX6_cost_62 ?_
                                        refine tpi (v := 16384) (by decide) ?_
                                        refine lv_i2l (v := 16384) hx hb dX6_cost_63 (by decide) ?_
                                        refine lv_ldc2 (v := 1024) hx hb hown (hts _ wd333_X6_cost) dX6_cost_64 ?_
                                        refine lv_lload_n hx hb dX6_cost_67 rfl (lv_at hl 1 rfl) ?_
                                        refine lv_lload_n hx hb dX6_cost_68 rfl (lv_at hl 3 rfl) ?_
                                        refine lv_lsub hx hb dX6_cost_69 ?_
                                        refine lv_lmul hx hb dX6_cost_70 ?_
                                        refine lv_lload_n hx hb dX6_cost_71 rfl (lv_at hl 1 rfl) ?_
                                        refine lv_lload hx hb dX6_cost_72 (lv_at hl 0 rfl) ?_
                                        refine lv_lsub hx hb dX6_cost_74 ?_
                                        refine tpl (v := 8) (by decide) ?_
                                        refine lv_ldiv hx hb dX6_cost_75 (by decide) ?_
                                        refine lv_ladd hx hb dX6_cost_76 ?_
                                        refine lv_l2i (v := ((16384 + ((1024 * (15 - p0)) / 8))).toInt32) hx hb dX6_cost_77 rfl ?_
                                        exact W.iret (v := ((16384 + ((1024 * (15 - p0)) / 8))).toInt32) hx hb hr (fun t ht hW => ⟨((16384 + ((1024 * (15 - p0)) / 8))).toInt32, rfl, (Or.inr (Or.inr (Or.inr (Or.inr (Or.inr (Or.inr (Or.inr (Or.inr (Or.inr (Or.inr (Or.inr (Or.inr (Or.inr (Or.inr (Or.inr (Or.inr (Or.inl ⟨c1, c2, c3, c4, c5, c6, c7, c8, c9, c10, c11, c12, c13, c14, c15, c16, c17, c18, c19, rfl⟩))))))))))))))))), ht⟩) (fun q hq => absurd hq List.not_mem_nil) dX6_cost_78
                                      · skip
                                        refine lv_iinc (v := 17) (lv' := [(2, .int 17), (3, .long 1000000), (0, .long p0)]) hx hb dX6_cost_37 hl (k := 0) rfl (by decide) (by decide) rfl (fun ls hl => ?_)
                                        refine lv_goto (tgt := 25) hx hb dX6_cost_40 (by decide) ?_
                                        refine lv_lload_n hx hb dX6_cost_25 rfl (lv_at hl 2 rfl) ?_
                                        refine lv_ldc (v := 1000000) hx hb hown (hts _ wd332_X6_cost) dX6_cost_26 ?_
                                        refine lv_iload_n hx hb dX6_cost_28 rfl (lv_at hl 0 rfl) ?_
                                        refine lv_iconst (v := 1) hx hb dX6_cost_29 (by decide) ?_
                                        refine lv_iadd hx hb dX6_cost_30 ?_
                                        refine tpi (v := 18) (by decide) ?_
                                        refine lv_ishr hx hb dX6_cost_31 ?_
                                        refine tpi (v := 3) (by decide) ?_
                                        refine lv_i2l (v := 3) hx hb dX6_cost_32 (by decide) ?_
                                        refine W.lcmp hx hb dX6_cost_33 ?_
                                        refine lv_if_gt (tgt := 43) hx hb dX6_cost_34 (by decide) (fun c20 => ?_) (fun c20 => ?_)
                                        · skip
                                          refine lv_ldc (v := 1000000) hx hb hown (hts _ wd332_X6_cost) dX6_cost_43 ?_
                                          refine lv_iload_n hx hb dX6_cost_45 rfl (lv_at hl 0 rfl) ?_
                                          refine lv_ishr hx hb dX6_cost_46 ?_
                                          refine tpi (v := 7) (by decide) ?_
                                          refine lv_i2l (v := 7) hx hb dX6_cost_47 (by decide) ?_
                                          refine lv_lstore_n (lv' := [(3, .long 7), (2, .int 17), (0, .long p0)]) hx hb dX6_cost_48 rfl hl (by decide) rfl (fun ls hl => ?_)
                                          refine lv_ldc (v := 1000000) hx hb hown (hts _ wd332_X6_cost) dX6_cost_49 ?_
                                          refine lv_iload_n hx hb dX6_cost_51 rfl (lv_at hl 1 rfl) ?_
                                          refine lv_iconst (v := 1) hx hb dX6_cost_52 (by decide) ?_
                                          refine lv_iadd hx hb dX6_cost_53 ?_
                                          refine tpi (v := 18) (by decide) ?_
                                          refine lv_ishr hx hb dX6_cost_54 ?_
                                          refine tpi (v := 3) (by decide) ?_
                                          refine lv_i2l (v := 3) hx hb dX6_cost_55 (by decide) ?_
                                          refine lv_lstore (lv' := [(5, .long 3), (3, .long 7), (2, .int 17), (0, .long p0)]) hx hb dX6_cost_56 hl (by decide) rfl (fun ls hl => ?_)
                                          refine lv_sipush (v := 1024) hx hb dX6_cost_58 (by decide) ?_
                                          refine lv_iload_n hx hb dX6_cost_61 rfl (lv_at hl 2 rfl) ?_
                                          refine lv_imul hx hb dX6_cost_62 ?_
                                          refine tpi (v := 17408) (by decide) ?_
                                          refine lv_i2l (v := 17408) hx hb dX6_cost_63 (by decide) ?_
                                          refine lv_ldc2 (v := 1024) hx hb hown (hts _ wd333_X6_cost) dX6_cost_64 ?_
                                          refine lv_lload_n hx hb dX6_cost_67 rfl (lv_at hl 1 rfl) ?_
                                          refine lv_lload_n hx hb dX6_cost_68 rfl (lv_at hl 3 rfl) ?_
                                          refine lv_lsub hx hb dX6_cost_69 ?_
                                          refine lv_lmul hx hb dX6_cost_70 ?_
                                          refine lv_lload_n hx hb dX6_cost_71 rfl (lv_at hl 1 rfl) ?_
                                          refine lv_lload hx hb dX6_cost_72 (lv_at hl 0 rfl) ?_
                                          refine lv_lsub hx hb dX6_cost_74 ?_
                                          refine tpl (v := 4) (by decide) ?_
                                          refine lv_ldiv hx hb dX6_cost_75 (by decide) ?_
                                          refine lv_ladd hx hb dX6_cost_76 ?_
                                          refine lv_l2i (v := ((17408 + ((1024 * (7 - p0)) / 4))).toInt32) hx hb dX6_cost_77 rfl ?_
                                          exact W.iret (v := ((17408 + ((1024 * (7 - p0)) / 4))).toInt32) hx hb hr (fun t ht hW => ⟨((17408 + ((1024 * (7 - p0)) / 4))).toInt32, rfl, (Or.inr (Or.inr (Or.inr (Or.inr (Or.inr (Or.inr (Or.inr (Or.inr (Or.inr (Or.inr (Or.inr (Or.inr (Or.inr (Or.inr (Or.inr (Or.inr (Or.inr (Or.inl ⟨c1, c2, c3, c4, c5, c6, c7, c8, c9, c10, c11, c12, c13, c14, c15, c16, c17, c18, c19, c20, rfl⟩)))))))))))))))))), ht⟩) (fun q hq => absurd hq List.not_mem_nil) dX6_cost_78
                                        · skip
                                          refine lv_iinc (v := 18) (lv' := [(2, .int 18), (3, .long 1000000), (0, .long p0)]) hx hb dX6_cost_37 hl (k := 0) rfl (by decide) (by decide) rfl (fun ls hl => ?_)
                                          refine lv_goto (tgt := 25) hx hb dX6_cost_40 (by decide) ?_
                                          refine lv_lload_n hx hb dX6_cost_25 rfl (lv_at hl 2 rfl) ?_
                                          refine lv_ldc (v := 1000000) hx hb hown (hts _ wd332_X6_cost) dX6_cost_26 ?_
                                          refine lv_iload_n hx hb dX6_cost_28 rfl (lv_at hl 0 rfl) ?_
                                          refine lv_iconst (v := 1) hx hb dX6_cost_29 (by decide) ?_
                                          refine lv_iadd hx hb dX6_cost_30 ?_
                                          refine tpi (v := 19) (by decide) ?_
                                          refine lv_ishr hx hb dX6_cost_31 ?_
                                          refine tpi (v := 1) (by decide) ?_
                                          refine lv_i2l (v := 1) hx hb dX6_cost_32 (by decide) ?_
                                          refine W.lcmp hx hb dX6_cost_33 ?_
                                          refine lv_if_gt (tgt := 43) hx hb dX6_cost_34 (by decide) (fun c21 => ?_) (fun c21 => ?_)
                                          · skip
                                            refine lv_ldc (v := 1000000) hx hb hown (hts _ wd332_X6_cost) dX6_cost_43 ?_
                                            refine lv_iload_n hx hb dX6_cost_45 rfl (lv_at hl 0 rfl) ?_
                                            refine lv_ishr hx hb dX6_cost_46 ?_
                                            refine tpi (v := 3) (by decide) ?_
                                            refine lv_i2l (v := 3) hx hb dX6_cost_47 (by decide) ?_
                                            refine lv_lstore_n (lv' := [(3, .long 3), (2, .int 18), (0, .long p0)]) hx hb dX6_cost_48 rfl hl (by decide) rfl (fun ls hl => ?_)
                                            refine lv_ldc (v := 1000000) hx hb hown (hts _ wd332_X6_cost) dX6_cost_49 ?_
                                            refine lv_iload_n hx hb dX6_cost_51 rfl (lv_at hl 1 rfl) ?_
                                            refine lv_iconst (v := 1) hx hb dX6_cost_52 (by decide) ?_
                                            refine lv_iadd hx hb dX6_cost_53 ?_
                                            refine tpi (v := 19) (by decide) ?_
                                            refine lv_ishr hx hb dX6_cost_54 ?_
                                            refine tpi (v := 1) (by decide) ?_
                                            refine lv_i2l (v := 1) hx hb dX6_cost_55 (by decide) ?_
                                            refine lv_lstore (lv' := [(5, .long 1), (3, .long 3), (2, .int 18), (0, .long p0)]) hx hb dX6_cost_56 hl (by decide) rfl (fun ls hl => ?_)
                                            refine lv_sipush (v := 1024) hx hb dX6_cost_58 (by decide) ?_
                                            refine lv_iload_n hx hb dX6_cost_61 rfl (lv_at hl 2 rfl) ?_
                                            refine lv_imul hx hb dX6_cost_62 ?_
                                            refine tpi (v := 18432) (by decide) ?_
                                            refine lv_i2l (v := 18432) hx hb dX6_cost_63 (by decide) ?_
                                            refine lv_ldc2 (v := 1024) hx hb hown (hts _ wd333_X6_cost) dX6_cost_64 ?_
                                            refine lv_lload_n hx hb dX6_cost_67 rfl (lv_at hl 1 rfl) ?_
                                            refine lv_lload_n hx hb dX6_cost_68 rfl (lv_at hl 3 rfl) ?_
                                            refine lv_lsub hx hb dX6_cost_69 ?_
                                            refine lv_lmul hx hb dX6_cost_70 ?_
                                            refine lv_lload_n hx hb dX6_cost_71 rfl (lv_at hl 1 rfl) ?_
                                            refine lv_lload hx hb dX6_cost_72 (lv_at hl 0 rfl) ?_
                                            refine lv_lsub hx hb dX6_cost_74 ?_
                                            refine tpl (v := 2) (by decide) ?_
                                            refine lv_ldiv hx hb dX6_cost_75 (by decide) ?_
                                            refine lv_ladd hx hb dX6_cost_76 ?_
                                            refine lv_l2i (v := ((18432 + ((1024 * (3 - p0)) / 2))).toInt32) hx hb dX6_cost_77 rfl ?_
                                            exact W.iret (v := ((18432 + ((1024 * (3 - p0)) / 2))).toInt32) hx hb hr (fun t ht hW => ⟨((18432 + ((1024 * (3 - p0)) / 2))).toInt32, rfl, (Or.inr (Or.inr (Or.inr (Or.inr (Or.inr (Or.inr (Or.inr (Or.inr (Or.inr (Or.inr (Or.inr (Or.inr (Or.inr (Or.inr (Or.inr (Or.inr (Or.inr (Or.inr (Or.inl ⟨c1, c2, c3, c4, c5, c6, c7, c8, c9, c10, c11, c12, c13, c14, c15, c16, c17, c18, c19, c20, c21, rfl⟩))))))))))))))))))), ht⟩) (fun q hq => absurd hq List.not_mem_nil) dX6_cost_78
                                          · skip
                                            refine lv_iinc (v := 19) (lv' := [(2, .int 19), (3, .long 1000000), (0, .long p0)]) hx hb dX6_cost_37 hl (k := 0) rfl (by decide) (by decide) rfl (fun ls hl => ?_)
                                            refine lv_goto (tgt := 25) hx hb dX6_cost_40 (by decide) ?_
                                            refine lv_lload_n hx hb dX6_cost_25 rfl (lv_at hl 2 rfl) ?_
                                            refine lv_ldc (v := 1000000) hx hb hown (hts _ wd332_X6_cost) dX6_cost_26 ?_
                                            refine lv_iload_n hx hb dX6_cost_28 rfl (lv_at hl 0 rfl) ?_
                                            refine lv_iconst (v := 1) hx hb dX6_cost_29 (by decide) ?_
                                            refine lv_iadd hx hb dX6_cost_30 ?_
                                            refine tpi (v := 20) (by decide) ?_
                                            refine lv_ishr hx hb dX6_cost_31 ?_
                                            refine tpi (v := 0) (by decide) ?_
                                            refine lv_i2l (v := 0) hx hb dX6_cost_32 (by decide) ?_
                                            refine W.lcmp hx hb dX6_cost_33 ?_
                                            refine lv_if_gt (tgt := 43) hx hb dX6_cost_34 (by decide) (fun _ => ?_) (fun h => absurd c1 h)
                                            refine lv_ldc (v := 1000000) hx hb hown (hts _ wd332_X6_cost) dX6_cost_43 ?_
                                            refine lv_iload_n hx hb dX6_cost_45 rfl (lv_at hl 0 rfl) ?_
                                            refine lv_ishr hx hb dX6_cost_46 ?_
                                            refine tpi (v := 1) (by decide) ?_
                                            refine lv_i2l (v := 1) hx hb dX6_cost_47 (by decide) ?_
                                            refine lv_lstore_n (lv' := [(3, .long 1), (2, .int 19), (0, .long p0)]) hx hb dX6_cost_48 rfl hl (by decide) rfl (fun ls hl => ?_)
                                            refine lv_ldc (v := 1000000) hx hb hown (hts _ wd332_X6_cost) dX6_cost_49 ?_
                                            refine lv_iload_n hx hb dX6_cost_51 rfl (lv_at hl 1 rfl) ?_
                                            refine lv_iconst (v := 1) hx hb dX6_cost_52 (by decide) ?_
                                            refine lv_iadd hx hb dX6_cost_53 ?_
                                            refine tpi (v := 20) (by decide) ?_
                                            refine lv_ishr hx hb dX6_cost_54 ?_
                                            refine tpi (v := 0) (by decide) ?_
                                            refine lv_i2l (v := 0) hx hb dX6_cost_55 (by decide) ?_
                                            refine lv_lstore (lv' := [(5, .long 0), (3, .long 1), (2, .int 19), (0, .long p0)]) hx hb dX6_cost_56 hl (by decide) rfl (fun ls hl => ?_)
                                            refine lv_sipush (v := 1024) hx hb dX6_cost_58 (by decide) ?_
                                            refine lv_iload_n hx hb dX6_cost_61 rfl (lv_at hl 2 rfl) ?_
                                            refine lv_imul hx hb dX6_cost_62 ?_
                                            refine tpi (v := 19456) (by decide) ?_
                                            refine lv_i2l (v := 19456) hx hb dX6_cost_63 (by decide) ?_
                                            refine lv_ldc2 (v := 1024) hx hb hown (hts _ wd333_X6_cost) dX6_cost_64 ?_
                                            refine lv_lload_n hx hb dX6_cost_67 rfl (lv_at hl 1 rfl) ?_
                                            refine lv_lload_n hx hb dX6_cost_68 rfl (lv_at hl 3 rfl) ?_
                                            refine lv_lsub hx hb dX6_cost_69 ?_
                                            refine lv_lmul hx hb dX6_cost_70 ?_
                                            refine lv_lload_n hx hb dX6_cost_71 rfl (lv_at hl 1 rfl) ?_
                                            refine lv_lload hx hb dX6_cost_72 (lv_at hl 0 rfl) ?_
                                            refine lv_lsub hx hb dX6_cost_74 ?_
                                            refine tpl (v := 1) (by decide) ?_
                                            refine lv_ldiv hx hb dX6_cost_75 (by decide) ?_
                                            refine lv_ladd hx hb dX6_cost_76 ?_
                                            refine lv_l2i (v := ((19456 + ((1024 * (1 - p0)) / 1))).toInt32) hx hb dX6_cost_77 rfl ?_
                                            exact W.iret (v := ((19456 + ((1024 * (1 - p0)) / 1))).toInt32) hx hb hr (fun t ht hW => ⟨((19456 + ((1024 * (1 - p0)) / 1))).toInt32, rfl, (Or.inr (Or.inr (Or.inr (Or.inr (Or.inr (Or.inr (Or.inr (Or.inr (Or.inr (Or.inr (Or.inr (Or.inr (Or.inr (Or.inr (Or.inr (Or.inr (Or.inr (Or.inr (Or.inr (Or.inl ⟨c1, c2, c3, c4, c5, c6, c7, c8, c9, c10, c11, c12, c13, c14, c15, c16, c17, c18, c19, c20, c21, rfl⟩)))))))))))))))))))), ht⟩) (fun q hq => absurd hq List.not_mem_nil) dX6_cost_78
    · skip
      refine lv_iconst (v := 0) hx hb dX6_cost_17 (by decide) ?_
      exact W.iret (v := 0) hx hb hr (fun t ht hW => ⟨0, rfl, (Or.inr (Or.inr (Or.inr (Or.inr (Or.inr (Or.inr (Or.inr (Or.inr (Or.inr (Or.inr (Or.inr (Or.inr (Or.inr (Or.inr (Or.inr (Or.inr (Or.inr (Or.inr (Or.inr (Or.inr (Or.inl ⟨c1, c2, rfl⟩))))))))))))))))))))), ht⟩) (fun q hq => absurd hq List.not_mem_nil) dX6_cost_18
  · skip
    refine lv_ldc (v := 32768) hx hb hown (hts _ wd334_X6_cost) dX6_cost_6 ?_
    exact W.iret (v := 32768) hx hb hr (fun t ht hW => ⟨32768, rfl, (Or.inr (Or.inr (Or.inr (Or.inr (Or.inr (Or.inr (Or.inr (Or.inr (Or.inr (Or.inr (Or.inr (Or.inr (Or.inr (Or.inr (Or.inr (Or.inr (Or.inr (Or.inr (Or.inr (Or.inr (Or.inr ⟨c1, rfl⟩))))))))))))))))))))), ht⟩) (fun q hq => absurd hq List.not_mem_nil) dX6_cost_8

theorem iv16 (x : Int32) (h0 : 500000 < x) : 0 < (lg_cmp (x).toInt64 0) := by
  have e0 : (0 : Int32).toInt = 0 := by decide
  have e1 : (500000 : Int32).toInt = 500000 := by decide
  have f0 : (0 : Int64).toInt = 0 := by decide
  have f1 : (500000 : Int64).toInt = 500000 := by decide
  simp only [lg_cmp_lt0, lg_cmp_le0, lg_cmp_gt0, lg_cmp_ge0, lg_cmp_eq0] at *
  simp only [Int64.lt_iff_toInt_lt, Int64.le_iff_toInt_le, ← Int64.toInt_inj, Int32.toInt_toInt64, Int32.lt_iff_toInt_lt, Int32.le_iff_toInt_le, ← Int32.toInt_inj, e0, e1, f0, f1] at *
  omega

theorem iv17 (x : Int32) (h0 : x < 1000000) : (lg_cmp (x).toInt64 1000000) < 0 := by
  have e0 : (0 : Int32).toInt = 0 := by decide
  have e1 : (1000000 : Int32).toInt = 1000000 := by decide
  have f0 : (0 : Int64).toInt = 0 := by decide
  have f1 : (1000000 : Int64).toInt = 1000000 := by decide
  simp only [lg_cmp_lt0, lg_cmp_le0, lg_cmp_gt0, lg_cmp_ge0, lg_cmp_eq0] at *
  simp only [Int64.lt_iff_toInt_lt, Int64.le_iff_toInt_le, ← Int64.toInt_inj, Int32.toInt_toInt64, Int32.lt_iff_toInt_lt, Int32.le_iff_toInt_le, ← Int32.toInt_inj, e0, e1, f0, f1] at *
  omega

theorem iv18 (x : Int32) (h0 : 500000 < x) : 0 < (lg_cmp (x).toInt64 500000) := by
  have e0 : (0 : Int32).toInt = 0 := by decide
  have e1 : (500000 : Int32).toInt = 500000 := by decide
  have f0 : (0 : Int64).toInt = 0 := by decide
  have f1 : (500000 : Int64).toInt = 500000 := by decide
  simp only [lg_cmp_lt0, lg_cmp_le0, lg_cmp_gt0, lg_cmp_ge0, lg_cmp_eq0] at *
  simp only [Int64.lt_iff_toInt_lt, Int64.le_iff_toInt_le, ← Int64.toInt_inj, Int32.toInt_toInt64, Int32.lt_iff_toInt_lt, Int32.le_iff_toInt_le, ← Int32.toInt_inj, e0, e1, f0, f1] at *
  omega

set_option maxHeartbeats 4000000 in
set_option maxRecDepth 100000 in
theorem k_X6_plain_2 (l : Launch) (D : va_G) (κ ε : Nat → Nat) (h0 h1 h2 h3 : Nat) (sz : Nat) (p0 : Int32) (p1 : Int32) (p2 : Int32) (p3 : Int32) (p4 : Int32) (p5 : Int32) (p6 : Int32) (p7 : Int32) : Met l yX6_plain wsX6_plain ({ frames := 0, cells := 0, slots := 0, locals := 0 }) (va_Pc [.ref h0, .int p0] (Pre2 D κ ε [(h0, .inr (8, [.int p1, .int p2, .int p3, .ref h1, .ref h2, .int p4, .int p5, .int p6, .int p7, .int 0, .ref h3]))] sz)) (va_Qi (fun r (u : Unit) => (r = p0)) (fun u t => va_P D vwCl [(h0, .inr (8, [.int 0, .int p2, .int p3, .ref h1, .ref h2, .int p4, .int p5, .int p6, .int p7, .int 0, .ref h3]))] t.heap ∧ va_D (va_A [(h0, .inr (8, [.int p1, .int p2, .int p3, .ref h1, .ref h2, .int p4, .int p5, .int p6, .int p7, .int 0, .ref h3]))] sz) [(h0, .inr (8, [.int 0, .int p2, .int p3, .ref h1, .ref h2, .int p4, .int p5, .int p6, .int p7, .int 0, .ref h3]))]) (va_A [(h0, .inr (8, [.int p1, .int p2, .int p3, .ref h1, .ref h2, .int p4, .int p5, .int p6, .int p7, .int 0, .ref h3]))] sz)) 0 0 (va_A [(h0, .inr (8, [.int p1, .int p2, .int p3, .ref h1, .ref h2, .int p4, .int p5, .int p6, .int p7, .int 0, .ref h3]))] sz) := by
  refine Met.ofW (cc := cX6_plain) (maxL := 2) (ret := (some .int)) (by decide) rfl ?_
  intro p e s m args below meth c s₁ B hml hv
  obtain ⟨rfl, hsz, hP, hK, hD0, hE9⟩ := hv
  have hx := B.exec
  have hb := B.bytes
  have hr := B.returns
  have hts := atoms_spec (ws := wsX6_plain) B.pre
  have hown : s.vm.findClass RX6 = some m.cls := findClass_of_methodNamed B.named
  have hlocks := B.notSynchronized
  subst hsz
  have hD := hD0.self (sz := s.heap.size)
  generalize hAe : va_A [(h0, .inr (8, [.int p1, .int p2, .int p3, .ref h1, .ref h2, .int p4, .int p5, .int p6, .int p7, .int 0, .ref h3]))] s.heap.size = A at hD hE9 ⊢
  have hE := hE9.1
  have hDc := hE9.2
  have hA : ∀ q : Nat, s.heap.size ≤ q → A q := fun q h => by rw [← hAe]; exact Or.inr h
  have hS : va_S A s.heap s.heap [] := va_S.rf
  have hP : va_P D vwCl [(h0, .inr (8, [.int p1, .int p2, .int p3, .ref h1, .ref h2, .int p4, .int p5, .int p6, .int p7, .int 0, .ref h3]))] s.heap := hP
  have hl := lv_entry [.ref h0, .int p0] (n := 2) (Nat.le_of_ble_eq_true rfl)
  rw [lg_entry_eq]
  generalize (lg_sl [.ref h0, .int p0] ++ List.replicate (2 - (lg_sl [.ref h0, .int p0]).length) Slot.unset).toArray = ls at hl ⊢
  have hl : lv_has ls 2 [(0, .ref h0), (1, .int p0)] := hl
  refine lv_aload_n hx hb dX6_plain_0 rfl (lv_at hl 0 rfl) ?_
  refine lv_iconst (v := 0) hx hb dX6_plain_1 (by decide) ?_
  refine va_put (D := D) (ci := 8) (v := .int 0) (ty := .int) (C := RX6) (T := TX6) (N := 11) hx hb hts wi_X6_plain_RX6 tyX6 tyX6_ok nmX6 hown hK hP hD hS 0 rfl rfl 0 (by decide) (hts _ wd193_X6_plain) (fun _ h9 => h9) rfl (by decide +kernel) rfl rfl (Nat.le_of_ble_eq_true rfl) dX6_plain_2 (fun H locs hP hD hS => ?_)
  have hP : va_P D vwCl [(h0, .inr (8, [.int 0, .int p2, .int p3, .ref h1, .ref h2, .int p4, .int p5, .int p6, .int p7, .int 0, .ref h3]))] H := hP
  have hD : va_D A [(h0, .inr (8, [.int 0, .int p2, .int p3, .ref h1, .ref h2, .int p4, .int p5, .int p6, .int p7, .int 0, .ref h3]))] := hD
  refine lv_iload_n hx hb dX6_plain_5 rfl (lv_at hl 1 rfl) ?_
  have hP9 := hP
  have hD9 := hD
  exact W.iret (v := p0) hx hb hr (fun t ht hW => ⟨⟨p0, (), rfl, rfl, by rw [ht]; exact hP9, hD9⟩, hS.F ht⟩) hS.2.2 dX6_plain_6

set_option maxHeartbeats 4000000 in
set_option maxRecDepth 100000 in
theorem k_X6_costOf_0 (l : Launch) (D : va_G) (κ ε : Nat → Nat) (h0 h1 h2 h3 : Nat) (sz : Nat) (p0 : Int32) (hf0 : p0 < 1000000) (hf1 : 500000 < p0) : Met l yX6_costOf wsX6_costOf ({ frames := 1, cells := 0, slots := 0, locals := 26 }) (va_Pc [.ref h0, .int p0] (Pre2 D κ ε [(h0, .inr (8, [.int 0, .int 0, .int 2, .ref h1, .ref h2, .int 0, .int 500, .int 0, .int 0, .int 0, .ref h3]))] sz)) (va_Qi (fun r (u : List Value) => (0 < (lg_cmp (p0).toInt64 0)) ∧ ((lg_cmp (p0).toInt64 1000000) < 0) ∧ (0 < (lg_cmp (p0).toInt64 500000)) ∧ (u[0]? = some (.int 0)) ∧ (r = (((1024 * (1000000 - (p0).toInt64)) / 500000)).toInt32)) (fun u t => va_P D vwCl [(h0, .inr (8, u))] t.heap ∧ va_D (va_A [(h0, .inr (8, [.int 0, .int 0, .int 2, .ref h1, .ref h2, .int 0, .int 500, .int 0, .int 0, .int 0, .ref h3]))] sz) [(h0, .inr (8, u))]) (va_A [(h0, .inr (8, [.int 0, .int 0, .int 2, .ref h1, .ref h2, .int 0, .int 500, .int 0, .int 0, .int 0, .ref h3]))] sz)) 0 0 (va_A [(h0, .inr (8, [.int 0, .int 0, .int 2, .ref h1, .ref h2, .int 0, .int 500, .int 0, .int 0, .int 0, .ref h3]))] sz) := by
  refine Met.ofW (cc := cX6_costOf) (maxL := 2) (ret := (some .int)) (by decide) rfl ?_
  intro p e s m args below meth c s₁ B hml hv
  obtain ⟨rfl, hsz, hP, hK, hD0, hE9⟩ := hv
  have hx := B.exec
  have hb := B.bytes
  have hr := B.returns
  have hts := atoms_spec (ws := wsX6_costOf) B.pre
  have hown : s.vm.findClass RX6 = some m.cls := findClass_of_methodNamed B.named
  have hlocks := B.notSynchronized
  subst hsz
  have hD := hD0.self (sz := s.heap.size)
  generalize hAe : va_A [(h0, .inr (8, [.int 0, .int 0, .int 2, .ref h1, .ref h2, .int 0, .int 500, .int 0, .int 0, .int 0, .ref h3]))] s.heap.size = A at hD hE9 ⊢
  have hE := hE9.1
  have hDc := hE9.2
  have hA : ∀ q : Nat, s.heap.size ≤ q → A q := fun q h => by rw [← hAe]; exact Or.inr h
  have hS : va_S A s.heap s.heap [] := va_S.rf
  have hP : va_P D vwCl [(h0, .inr (8, [.int 0, .int 0, .int 2, .ref h1, .ref h2, .int 0, .int 500, .int 0, .int 0, .int 0, .ref h3]))] s.heap := hP
  have hl := lv_entry [.ref h0, .int p0] (n := 2) (Nat.le_of_ble_eq_true rfl)
  rw [lg_entry_eq]
  generalize (lg_sl [.ref h0, .int p0] ++ List.replicate (2 - (lg_sl [.ref h0, .int p0]).length) Slot.unset).toArray = ls at hl ⊢
  have hl : lv_has ls 2 [(0, .ref h0), (1, .int p0)] := hl
  refine lv_aload_n hx hb dX6_costOf_0 rfl (lv_at hl 0 rfl) ?_
  refine lv_iload_n hx hb dX6_costOf_1 rfl (lv_at hl 1 rfl) ?_
  refine lv_i2l (v := (p0).toInt64) hx hb dX6_costOf_2 rfl ?_
  refine vp_callSi (W.runS (As := [.long (p0).toInt64]) (rest := [.ref h0]) ⟨hx, hb, hml, hown, hts⟩ (k_X6_cost_0 l D κ ε ((p0).toInt64)) (va_cwS 1 hts gX6_costOf_X6_cost rfl rfl rfl (by decide +kernel) ⟨(Nat.le_of_ble_eq_true rfl), (Nat.le_of_ble_eq_true rfl)⟩) (pre0_S (wc := []) hP hK [] rfl) rfl rfl hl.1 rfl (lv_room (Nat.le_of_ble_eq_true rfl)) dX6_costOf_3 ⟨(Nat.le_of_ble_eq_true rfl), (Nat.le_of_ble_eq_true rfl)⟩) (fun r hw => ?_)
  rcases hw with ⟨c1, c2, c3, hv4⟩ | ⟨c5, c6, c7, c8, hv9⟩ | ⟨c10, c11, c12, c13, c14, hv15⟩ | ⟨c16, c17, c18, c19, c20, c21, hv22⟩ | ⟨c23, c24, c25, c26, c27, c28, c29, hv30⟩ | ⟨c31, c32, c33, c34, c35, c36, c37, c38, hv39⟩ | ⟨c40, c41, c42, c43, c44, c45, c46, c47, c48, hv49⟩ | ⟨c50, c51, c52, c53, c54, c55, c56, c57, c58, c59, hv60⟩ | ⟨c61, c62, c63, c64, c65, c66, c67, c68, c69, c70, c71, hv72⟩ | ⟨c73, c74, c75, c76, c77, c78, c79, c80, c81, c82, c83, c84, hv85⟩ | ⟨c86, c87, c88, c89, c90, c91, c92, c93, c94, c95, c96, c97, c98, hv99⟩ | ⟨c100, c101, c102, c103, c104, c105, c106, c107, c108, c109, c110, c111, c112, c113, hv114⟩ | ⟨c115, c116, c117, c118, c119, c120, c121, c122, c123, c124, c125, c126, c127, c128, c129, hv130⟩ | ⟨c131, c132, c133, c134, c135, c136, c137, c138, c139, c140, c141, c142, c143, c144, c145, c146, hv147⟩ | ⟨c148, c149, c150, c151, c152, c153, c154, c155, c156, c157, c158, c159, c160, c161, c162, c163, c164, hv165⟩ | ⟨c166, c167, c168, c169, c170, c171, c172, c173, c174, c175, c176, c177, c178, c179, c180, c181, c182, c183, hv184⟩ | ⟨c185, c186, c187, c188, c189, c190, c191, c192, c193, c194, c195, c196, c197, c198, c199, c200, c201, c202, c203, hv204⟩ | ⟨c205, c206, c207, c208, c209, c210, c211, c212, c213, c214, c215, c216, c217, c218, c219, c220, c221, c222, c223, c224, hv225⟩ | ⟨c226, c227, c228, c229, c230, c231, c232, c233, c234, c235, c236, c237, c238, c239, c240, c241, c242, c243, c244, c245, c246, hv247⟩ | ⟨c248, c249, c250, c251, c252, c253, c254, c255, c256, c257, c258, c259, c260, c261, c262, c263, c264, c265, c266, c267, c268, hv269⟩ | ⟨c270, c271, rfl⟩ | ⟨c272, rfl⟩
  · skip
    rw [hv4]
    have hF := va_free (wc := [(h0, .inr (8, [.int 0, .int 0, .int 2, .ref h1, .ref h2, .int 0, .int 500, .int 0, .int 0, .int 0, .ref h3]))]) hD hS hA [0] rfl
    refine va_calli (va_runV (As := [.int (((1024 * (1000000 - (p0).toInt64)) / 500000)).toInt32]) (rest := []) ⟨hx, hb, hml, hown, hts⟩ (k_X6_plain_2 l D κ ε h0 h1 h2 h3 s.heap.size ((((1024 * (1000000 - (p0).toInt64)) / 500000)).toInt32) (0) (0) (2) (0) (500) (0) (0)) (cwV 1 hts gX6_costOf_X6_plain rfl rfl rfl (by decide +kernel) ⟨(Nat.le_of_ble_eq_true rfl), (Nat.le_of_ble_eq_true rfl)⟩) (pre2_V (q0 := 0) (ci := 8) (wc := [(h0, .inr (8, [.int 0, .int 0, .int 2, .ref h1, .ref h2, .int 0, .int 500, .int 0, .int 0, .int 0, .ref h3]))]) hP hD hK hE9 hS hA [0] (by decide) rfl rfl rfl) rfl rfl hl.1 rfl (lv_room (Nat.le_of_ble_eq_true rfl)) dX6_costOf_6 ⟨(Nat.le_of_ble_eq_true rfl), (Nat.le_of_ble_eq_true rfl)⟩) hS (fun q _ h => hF q h) hF (fun r u273 t H locs ht hvm hw hB hz1 hk1 hS => ?_)
    try dsimp only at hw hB
    obtain ⟨hP1, hD1⟩ := hB
    rw [ht] at hP1
    obtain ⟨hP, hD⟩ := post_j (ws' := [(h0, .inr (8, [.int 0, .int 0, .int 2, .ref h1, .ref h2, .int 0, .int 500, .int 0, .int 0, .int 0, .ref h3]))]) (wr := []) (w1 := [(h0, .inr (8, [.int 0, .int 0, .int 2, .ref h1, .ref h2, .int 0, .int 500, .int 0, .int 0, .int 0, .ref h3]))]) hP hD hF [0] rfl [] rfl (by decide) (by decide) hk1 hP1 hD1 [0] (by decide) rfl
    have hP : va_P D vwCl [(h0, .inr (8, [.int 0, .int 0, .int 2, .ref h1, .ref h2, .int 0, .int 500, .int 0, .int 0, .int 0, .ref h3]))] H := hP
    have hD : va_D A [(h0, .inr (8, [.int 0, .int 0, .int 2, .ref h1, .ref h2, .int 0, .int 500, .int 0, .int 0, .int 0, .ref h3]))] := hD
    rw [hw]
    have hP9 := hP.sub (ws' := [(h0, .inr (8, [.int 0, .int 0, .int 2, .ref h1, .ref h2, .int 0, .int 500, .int 0, .int 0, .int 0, .ref h3]))]) [0] rfl
    have hD9 := hD.sub (ws' := [(h0, .inr (8, [.int 0, .int 0, .int 2, .ref h1, .ref h2, .int 0, .int 500, .int 0, .int 0, .int 0, .ref h3]))]) [0] (by decide) rfl
    exact W.iret (v := (((1024 * (1000000 - (p0).toInt64)) / 500000)).toInt32) hx hb hr (fun t ht hW => ⟨⟨(((1024 * (1000000 - (p0).toInt64)) / 500000)).toInt32, [.int 0, .int 0, .int 2, .ref h1, .ref h2, .int 0, .int 500, .int 0, .int 0, .int 0, .ref h3], rfl, ⟨c1, c2, c3, rfl, rfl⟩, by rw [ht]; exact hP9, hD9⟩, hS.F ht⟩) hS.2.2 dX6_costOf_9
  · skip
    rw [hv9]
    exact absurd (iv18 _ hf1) c7
  · skip
    rw [hv15]
    exact absurd (iv18 _ hf1) c12
  · skip
    rw [hv22]
    exact absurd (iv18 _ hf1) c18
  · skip
    rw [hv30]
    exact absurd (iv18 _ hf1) c25
  · skip
    rw [hv39]
    exact absurd (iv18 _ hf1) c33
  · skip
    rw [hv49]
    exact absurd (iv18 _ hf1) c42
  · skip
    rw [hv60]
    exact absurd (iv18 _ hf1) c52
  · skip
    rw [hv72]
    exact absurd (iv18 _ hf1) c63
  · skip
    rw [hv85]
    exact absurd (iv18 _ hf1) c75
  · skip
    rw [hv99]
    exact absurd (iv18 _ hf1) c88
  · skip
    rw [hv114]
    exact absurd (iv18 _ hf1) c102
  · skip
    rw [hv130]
    exact absurd (iv18 _ hf1) c117
  · skip
    rw [hv147]
    exact absurd (iv18 _ hf1) c133
  · skip
    rw [hv165]
    exact absurd (iv18 _ hf1) c150
  · skip
    rw [hv184]
    exact absurd (iv18 _ hf1) c168
  · skip
    rw [hv204]
    exact absurd (iv18 _ hf1) c187
  · skip
    rw [hv225]
    exact absurd (iv18 _ hf1) c207
  · skip
    rw [hv247]
    exact absurd (iv18 _ hf1) c228
  · skip
    rw [hv269]
    exact absurd (iv18 _ hf1) c250
  · skip
    exact absurd (iv17 _ hf0) c271
  · skip
    exact absurd (iv16 _ hf1) c272

theorem iv19 (x : Int32) (h0 : 0 < (lg_cmp (x).toInt64 500000)) : 0 < x := by
  have e0 : (0 : Int32).toInt = 0 := by decide
  have e1 : (500000 : Int32).toInt = 500000 := by decide
  have f0 : (0 : Int64).toInt = 0 := by decide
  have f1 : (500000 : Int64).toInt = 500000 := by decide
  simp only [lg_cmp_lt0, lg_cmp_le0, lg_cmp_gt0, lg_cmp_ge0, lg_cmp_eq0] at *
  simp only [Int64.lt_iff_toInt_lt, Int64.le_iff_toInt_le, ← Int64.toInt_inj, Int32.toInt_toInt64, Int32.lt_iff_toInt_lt, Int32.le_iff_toInt_le, ← Int32.toInt_inj, e0, e1, f0, f1] at *
  omega

theorem iv20 (x : Int32) (h0 : (lg_cmp (x).toInt64 1000000) < 0) : x ≤ 1000000 := by
  have e0 : (0 : Int32).toInt = 0 := by decide
  have e1 : (1000000 : Int32).toInt = 1000000 := by decide
  have f0 : (0 : Int64).toInt = 0 := by decide
  have f1 : (1000000 : Int64).toInt = 1000000 := by decide
  simp only [lg_cmp_lt0, lg_cmp_le0, lg_cmp_gt0, lg_cmp_ge0, lg_cmp_eq0] at *
  simp only [Int64.lt_iff_toInt_lt, Int64.le_iff_toInt_le, ← Int64.toInt_inj, Int32.toInt_toInt64, Int32.lt_iff_toInt_lt, Int32.le_iff_toInt_le, ← Int32.toInt_inj, e0, e1, f0, f1] at *
  omega

theorem iv21 (x : Int32) (h0 : 250000 < x) : 0 < (lg_cmp (x).toInt64 0) := by
  have e0 : (0 : Int32).toInt = 0 := by decide
  have e1 : (250000 : Int32).toInt = 250000 := by decide
  have f0 : (0 : Int64).toInt = 0 := by decide
  have f1 : (250000 : Int64).toInt = 250000 := by decide
  simp only [lg_cmp_lt0, lg_cmp_le0, lg_cmp_gt0, lg_cmp_ge0, lg_cmp_eq0] at *
  simp only [Int64.lt_iff_toInt_lt, Int64.le_iff_toInt_le, ← Int64.toInt_inj, Int32.toInt_toInt64, Int32.lt_iff_toInt_lt, Int32.le_iff_toInt_le, ← Int32.toInt_inj, e0, e1, f0, f1] at *
  omega

theorem iv22 (x : Int32) (h0 : ¬ 500000 < x) : (lg_cmp (x).toInt64 1000000) < 0 := by
  have e0 : (0 : Int32).toInt = 0 := by decide
  have e1 : (500000 : Int32).toInt = 500000 := by decide
  have e2 : (1000000 : Int32).toInt = 1000000 := by decide
  have f0 : (0 : Int64).toInt = 0 := by decide
  have f1 : (500000 : Int64).toInt = 500000 := by decide
  have f2 : (1000000 : Int64).toInt = 1000000 := by decide
  simp only [lg_cmp_lt0, lg_cmp_le0, lg_cmp_gt0, lg_cmp_ge0, lg_cmp_eq0] at *
  simp only [Int64.lt_iff_toInt_lt, Int64.le_iff_toInt_le, ← Int64.toInt_inj, Int32.toInt_toInt64, Int32.lt_iff_toInt_lt, Int32.le_iff_toInt_le, ← Int32.toInt_inj, e0, e1, e2, f0, f1, f2] at *
  omega

theorem iv23 (x : Int32) (h0 : ¬ 500000 < x) : ¬ 0 < (lg_cmp (x).toInt64 500000) := by
  have e0 : (0 : Int32).toInt = 0 := by decide
  have e1 : (500000 : Int32).toInt = 500000 := by decide
  have f0 : (0 : Int64).toInt = 0 := by decide
  have f1 : (500000 : Int64).toInt = 500000 := by decide
  simp only [lg_cmp_lt0, lg_cmp_le0, lg_cmp_gt0, lg_cmp_ge0, lg_cmp_eq0] at *
  simp only [Int64.lt_iff_toInt_lt, Int64.le_iff_toInt_le, ← Int64.toInt_inj, Int32.toInt_toInt64, Int32.lt_iff_toInt_lt, Int32.le_iff_toInt_le, ← Int32.toInt_inj, e0, e1, f0, f1] at *
  omega

theorem iv24 (x : Int32) (h0 : 250000 < x) : 0 < (lg_cmp (x).toInt64 250000) := by
  have e0 : (0 : Int32).toInt = 0 := by decide
  have e1 : (250000 : Int32).toInt = 250000 := by decide
  have f0 : (0 : Int64).toInt = 0 := by decide
  have f1 : (250000 : Int64).toInt = 250000 := by decide
  simp only [lg_cmp_lt0, lg_cmp_le0, lg_cmp_gt0, lg_cmp_ge0, lg_cmp_eq0] at *
  simp only [Int64.lt_iff_toInt_lt, Int64.le_iff_toInt_le, ← Int64.toInt_inj, Int32.toInt_toInt64, Int32.lt_iff_toInt_lt, Int32.le_iff_toInt_le, ← Int32.toInt_inj, e0, e1, f0, f1] at *
  omega

set_option maxHeartbeats 4000000 in
set_option maxRecDepth 100000 in
theorem k_X6_costOf_1 (l : Launch) (D : va_G) (κ ε : Nat → Nat) (h0 h1 h2 h3 : Nat) (sz : Nat) (p0 : Int32) (hf0 : ¬ 500000 < p0) (hf1 : 250000 < p0) : Met l yX6_costOf wsX6_costOf ({ frames := 1, cells := 0, slots := 0, locals := 26 }) (va_Pc [.ref h0, .int p0] (Pre2 D κ ε [(h0, .inr (8, [.int 0, .int 0, .int 2, .ref h1, .ref h2, .int 0, .int 500, .int 0, .int 0, .int 0, .ref h3]))] sz)) (va_Qi (fun r (u : List Value) => (0 < (lg_cmp (p0).toInt64 0)) ∧ ((lg_cmp (p0).toInt64 1000000) < 0) ∧ (¬ 0 < (lg_cmp (p0).toInt64 500000)) ∧ (0 < (lg_cmp (p0).toInt64 250000)) ∧ (u[0]? = some (.int 0)) ∧ (r = ((1024 + ((1024 * (500000 - (p0).toInt64)) / 250000))).toInt32)) (fun u t => va_P D vwCl [(h0, .inr (8, u))] t.heap ∧ va_D (va_A [(h0, .inr (8, [.int 0, .int 0, .int 2, .ref h1, .ref h2, .int 0, .int 500, .int 0, .int 0, .int 0, .ref h3]))] sz) [(h0, .inr (8, u))]) (va_A [(h0, .inr (8, [.int 0, .int 0, .int 2, .ref h1, .ref h2, .int 0, .int 500, .int 0, .int 0, .int 0, .ref h3]))] sz)) 0 0 (va_A [(h0, .inr (8, [.int 0, .int 0, .int 2, .ref h1, .ref h2, .int 0, .int 500, .int 0, .int 0, .int 0, .ref h3]))] sz) := by
  refine Met.ofW (cc := cX6_costOf) (maxL := 2) (ret := (some .int)) (by decide) rfl ?_
  intro p e s m args below meth c s₁ B hml hv
  obtain ⟨rfl, hsz, hP, hK, hD0, hE9⟩ := hv
  have hx := B.exec
  have hb := B.bytes
  have hr := B.returns
  have hts := atoms_spec (ws := wsX6_costOf) B.pre
  have hown : s.vm.findClass RX6 = some m.cls := findClass_of_methodNamed B.named
  have hlocks := B.notSynchronized
  subst hsz
  have hD := hD0.self (sz := s.heap.size)
  generalize hAe : va_A [(h0, .inr (8, [.int 0, .int 0, .int 2, .ref h1, .ref h2, .int 0, .int 500, .int 0, .int 0, .int 0, .ref h3]))] s.heap.size = A at hD hE9 ⊢
  have hE := hE9.1
  have hDc := hE9.2
  have hA : ∀ q : Nat, s.heap.size ≤ q → A q := fun q h => by rw [← hAe]; exact Or.inr h
  have hS : va_S A s.heap s.heap [] := va_S.rf
  have hP : va_P D vwCl [(h0, .inr (8, [.int 0, .int 0, .int 2, .ref h1, .ref h2, .int 0, .int 500, .int 0, .int 0, .int 0, .ref h3]))] s.heap := hP
  have hl := lv_entry [.ref h0, .int p0] (n := 2) (Nat.le_of_ble_eq_true rfl)
  rw [lg_entry_eq]
  generalize (lg_sl [.ref h0, .int p0] ++ List.replicate (2 - (lg_sl [.ref h0, .int p0]).length) Slot.unset).toArray = ls at hl ⊢
  have hl : lv_has ls 2 [(0, .ref h0), (1, .int p0)] := hl
  refine lv_aload_n hx hb dX6_costOf_0 rfl (lv_at hl 0 rfl) ?_
  refine lv_iload_n hx hb dX6_costOf_1 rfl (lv_at hl 1 rfl) ?_
  refine lv_i2l (v := (p0).toInt64) hx hb dX6_costOf_2 rfl ?_
  refine vp_callSi (W.runS (As := [.long (p0).toInt64]) (rest := [.ref h0]) ⟨hx, hb, hml, hown, hts⟩ (k_X6_cost_0 l D κ ε ((p0).toInt64)) (va_cwS 1 hts gX6_costOf_X6_cost rfl rfl rfl (by decide +kernel) ⟨(Nat.le_of_ble_eq_true rfl), (Nat.le_of_ble_eq_true rfl)⟩) (pre0_S (wc := []) hP hK [] rfl) rfl rfl hl.1 rfl (lv_room (Nat.le_of_ble_eq_true rfl)) dX6_costOf_3 ⟨(Nat.le_of_ble_eq_true rfl), (Nat.le_of_ble_eq_true rfl)⟩) (fun r hw => ?_)
  rcases hw with ⟨c1, c2, c3, hv4⟩ | ⟨c5, c6, c7, c8, hv9⟩ | ⟨c10, c11, c12, c13, c14, hv15⟩ | ⟨c16, c17, c18, c19, c20, c21, hv22⟩ | ⟨c23, c24, c25, c26, c27, c28, c29, hv30⟩ | ⟨c31, c32, c33, c34, c35, c36, c37, c38, hv39⟩ | ⟨c40, c41, c42, c43, c44, c45, c46, c47, c48, hv49⟩ | ⟨c50, c51, c52, c53, c54, c55, c56, c57, c58, c59, hv60⟩ | ⟨c61, c62, c63, c64, c65, c66, c67, c68, c69, c70, c71, hv72⟩ | ⟨c73, c74, c75, c76, c77, c78, c79, c80, c81, c82, c83, c84, hv85⟩ | ⟨c86, c87, c88, c89, c90, c91, c92, c93, c94, c95, c96, c97, c98, hv99⟩ | ⟨c100, c101, c102, c103, c104, c105, c106, c107, c108, c109, c110, c111, c112, c113, hv114⟩ | ⟨c115, c116, c117, c118, c119, c120, c121, c122, c123, c124, c125, c126, c127, c128, c129, hv130⟩ | ⟨c131, c132, c133, c134, c135, c136, c137, c138, c139, c140, c141, c142, c143, c144, c145, c146, hv147⟩ | ⟨c148, c149, c150, c151, c152, c153, c154, c155, c156, c157, c158, c159, c160, c161, c162, c163, c164, hv165⟩ | ⟨c166, c167, c168, c169, c170, c171, c172, c173, c174, c175, c176, c177, c178, c179, c180, c181, c182, c183, hv184⟩ | ⟨c185, c186, c187, c188, c189, c190, c191, c192, c193, c194, c195, c196, c197, c198, c199, c200, c201, c202, c203, hv204⟩ | ⟨c205, c206, c207, c208, c209, c210, c211, c212, c213, c214, c215, c216, c217, c218, c219, c220, c221, c222, c223, c224, hv225⟩ | ⟨c226, c227, c228, c229, c230, c231, c232, c233, c234, c235, c236, c237, c238, c239, c240, c241, c242, c243, c244, c245, c246, hv247⟩ | ⟨c248, c249, c250, c251, c252, c253, c254, c255, c256, c257, c258, c259, c260, c261, c262, c263, c264, c265, c266, c267, c268, hv269⟩ | ⟨c270, c271, rfl⟩ | ⟨c272, rfl⟩
  · skip
    rw [hv4]
    exact absurd c3 (iv23 _ hf0)
  · skip
    rw [hv9]
    have hF := va_free (wc := [(h0, .inr (8, [.int 0, .int 0, .int 2, .ref h1, .ref h2, .int 0, .int 500, .int 0, .int 0, .int 0, .ref h3]))]) hD hS hA [0] rfl
    refine va_calli (va_runV (As := [.int ((1024 + ((1024 * (500000 - (p0).toInt64)) / 250000))).toInt32]) (rest := []) ⟨hx, hb, hml, hown, hts⟩ (k_X6_plain_2 l D κ ε h0 h1 h2 h3 s.heap.size (((1024 + ((1024 * (500000 - (p0).toInt64)) / 250000))).toInt32) (0) (0) (2) (0) (500) (0) (0)) (cwV 1 hts gX6_costOf_X6_plain rfl rfl rfl (by decide +kernel) ⟨(Nat.le_of_ble_eq_true rfl), (Nat.le_of_ble_eq_true rfl)⟩) (pre2_V (q0 := 0) (ci := 8) (wc := [(h0, .inr (8, [.int 0, .int 0, .int 2, .ref h1, .ref h2, .int 0, .int 500, .int 0, .int 0, .int 0, .ref h3]))]) hP hD hK hE9 hS hA [0] (by decide) rfl rfl rfl) rfl rfl hl.1 rfl (lv_room (Nat.le_of_ble_eq_true rfl)) dX6_costOf_6 ⟨(Nat.le_of_ble_eq_true rfl), (Nat.le_of_ble_eq_true rfl)⟩) hS (fun q _ h => hF q h) hF (fun r u273 t H locs ht hvm hw hB hz1 hk1 hS => ?_)
    try dsimp only at hw hB
    obtain ⟨hP1, hD1⟩ := hB
    rw [ht] at hP1
    obtain ⟨hP, hD⟩ := post_j (ws' := [(h0, .inr (8, [.int 0, .int 0, .int 2, .ref h1, .ref h2, .int 0, .int 500, .int 0, .int 0, .int 0, .ref h3]))]) (wr := []) (w1 := [(h0, .inr (8, [.int 0, .int 0, .int 2, .ref h1, .ref h2, .int 0, .int 500, .int 0, .int 0, .int 0, .ref h3]))]) hP hD hF [0] rfl [] rfl (by decide) (by decide) hk1 hP1 hD1 [0] (by decide) rfl
    have hP : va_P D vwCl [(h0, .inr (8, [.int 0, .int 0, .int 2, .ref h1, .ref h2, .int 0, .int 500, .int 0, .int 0, .int 0, .ref h3]))] H := hP
    have hD : va_D A [(h0, .inr (8, [.int 0, .int 0, .int 2, .ref h1, .ref h2, .int 0, .int 500, .int 0, .int 0, .int 0, .ref h3]))] := hD
    rw [hw]
    have hP9 := hP.sub (ws' := [(h0, .inr (8, [.int 0, .int 0, .int 2, .ref h1, .ref h2, .int 0, .int 500, .int 0, .int 0, .int 0, .ref h3]))]) [0] rfl
    have hD9 := hD.sub (ws' := [(h0, .inr (8, [.int 0, .int 0, .int 2, .ref h1, .ref h2, .int 0, .int 500, .int 0, .int 0, .int 0, .ref h3]))]) [0] (by decide) rfl
    exact W.iret (v := ((1024 + ((1024 * (500000 - (p0).toInt64)) / 250000))).toInt32) hx hb hr (fun t ht hW => ⟨⟨((1024 + ((1024 * (500000 - (p0).toInt64)) / 250000))).toInt32, [.int 0, .int 0, .int 2, .ref h1, .ref h2, .int 0, .int 500, .int 0, .int 0, .int 0, .ref h3], rfl, ⟨c5, c6, c7, c8, rfl, rfl⟩, by rw [ht]; exact hP9, hD9⟩, hS.F ht⟩) hS.2.2 dX6_costOf_9
  · skip
    rw [hv15]
    exact absurd (iv24 _ hf1) c13
  · skip
    rw [hv22]
    exact absurd (iv24 _ hf1) c19
  · skip
    rw [hv30]
    exact absurd (iv24 _ hf1) c26
  · skip
    rw [hv39]
    exact absurd (iv24 _ hf1) c34
  · skip
    rw [hv49]
    exact absurd (iv24 _ hf1) c43
  · skip
    rw [hv60]
    exact absurd (iv24 _ hf1) c53
  · skip
    rw [hv72]
    exact absurd (iv24 _ hf1) c64
  · skip
    rw [hv85]
    exact absurd (iv24 _ hf1) c76
  · skip
    rw [hv99]
    exact absurd (iv24 _ hf1) c89
  · skip
    rw [hv114]
    exact absurd (iv24 _ hf1) c103
  · skip
    rw [hv130]
    exact absurd (iv24 _ hf1) c118
  · skip
    rw [hv147]
    exact absurd (iv24 _ hf1) c134
  · skip
    rw [hv165]
    exact absurd (iv24 _ hf1) c151
  · skip
    rw [hv184]
    exact absurd (iv24 _ hf1) c169
  · skip
    rw [hv204]
    exact absurd (iv24 _ hf1) c188
  · skip
    rw [hv225]
    exact absurd (iv24 _ hf1) c208
  · skip
    rw [hv247]
    exact absurd (iv24 _ hf1) c229
  · skip
    rw [hv269]
    exact absurd (iv24 _ hf1) c251
  · skip
    exact absurd (iv22 _ hf0) c271
  · skip
    exact absurd (iv21 _ hf1) c272

theorem iv25 (x : Int32) (h0 : 0 < (lg_cmp (x).toInt64 250000)) : 0 < x := by
  have e0 : (0 : Int32).toInt = 0 := by decide
  have e1 : (250000 : Int32).toInt = 250000 := by decide
  have f0 : (0 : Int64).toInt = 0 := by decide
  have f1 : (250000 : Int64).toInt = 250000 := by decide
  simp only [lg_cmp_lt0, lg_cmp_le0, lg_cmp_gt0, lg_cmp_ge0, lg_cmp_eq0] at *
  simp only [Int64.lt_iff_toInt_lt, Int64.le_iff_toInt_le, ← Int64.toInt_inj, Int32.toInt_toInt64, Int32.lt_iff_toInt_lt, Int32.le_iff_toInt_le, ← Int32.toInt_inj, e0, e1, f0, f1] at *
  omega

theorem iv26 (x : Int32) (h0 : ¬ 0 < (lg_cmp (x).toInt64 500000)) : x ≤ 500000 := by
  have e0 : (0 : Int32).toInt = 0 := by decide
  have e1 : (500000 : Int32).toInt = 500000 := by decide
  have f0 : (0 : Int64).toInt = 0 := by decide
  have f1 : (500000 : Int64).toInt = 500000 := by decide
  simp only [lg_cmp_lt0, lg_cmp_le0, lg_cmp_gt0, lg_cmp_ge0, lg_cmp_eq0] at *
  simp only [Int64.lt_iff_toInt_lt, Int64.le_iff_toInt_le, ← Int64.toInt_inj, Int32.toInt_toInt64, Int32.lt_iff_toInt_lt, Int32.le_iff_toInt_le, ← Int32.toInt_inj, e0, e1, f0, f1] at *
  omega

theorem iv27 (x : Int32) (h0 : 125000 < x) : 0 < (lg_cmp (x).toInt64 0) := by
  have e0 : (0 : Int32).toInt = 0 := by decide
  have e1 : (125000 : Int32).toInt = 125000 := by decide
  have f0 : (0 : Int64).toInt = 0 := by decide
  have f1 : (125000 : Int64).toInt = 125000 := by decide
  simp only [lg_cmp_lt0, lg_cmp_le0, lg_cmp_gt0, lg_cmp_ge0, lg_cmp_eq0] at *
  simp only [Int64.lt_iff_toInt_lt, Int64.le_iff_toInt_le, ← Int64.toInt_inj, Int32.toInt_toInt64, Int32.lt_iff_toInt_lt, Int32.le_iff_toInt_le, ← Int32.toInt_inj, e0, e1, f0, f1] at *
  omega

theorem iv28 (x : Int32) (h0 : ¬ 250000 < x) : (lg_cmp (x).toInt64 1000000) < 0 := by
  have e0 : (0 : Int32).toInt = 0 := by decide
  have e1 : (250000 : Int32).toInt = 250000 := by decide
  have e2 : (1000000 : Int32).toInt = 1000000 := by decide
  have f0 : (0 : Int64).toInt = 0 := by decide
  have f1 : (250000 : Int64).toInt = 250000 := by decide
  have f2 : (1000000 : Int64).toInt = 1000000 := by decide
  simp only [lg_cmp_lt0, lg_cmp_le0, lg_cmp_gt0, lg_cmp_ge0, lg_cmp_eq0] at *
  simp only [Int64.lt_iff_toInt_lt, Int64.le_iff_toInt_le, ← Int64.toInt_inj, Int32.toInt_toInt64, Int32.lt_iff_toInt_lt, Int32.le_iff_toInt_le, ← Int32.toInt_inj, e0, e1, e2, f0, f1, f2] at *
  omega

theorem iv29 (x : Int32) (h0 : ¬ 250000 < x) : ¬ 0 < (lg_cmp (x).toInt64 500000) := by
  have e0 : (0 : Int32).toInt = 0 := by decide
  have e1 : (250000 : Int32).toInt = 250000 := by decide
  have e2 : (500000 : Int32).toInt = 500000 := by decide
  have f0 : (0 : Int64).toInt = 0 := by decide
  have f1 : (250000 : Int64).toInt = 250000 := by decide
  have f2 : (500000 : Int64).toInt = 500000 := by decide
  simp only [lg_cmp_lt0, lg_cmp_le0, lg_cmp_gt0, lg_cmp_ge0, lg_cmp_eq0] at *
  simp only [Int64.lt_iff_toInt_lt, Int64.le_iff_toInt_le, ← Int64.toInt_inj, Int32.toInt_toInt64, Int32.lt_iff_toInt_lt, Int32.le_iff_toInt_le, ← Int32.toInt_inj, e0, e1, e2, f0, f1, f2] at *
  omega

theorem iv30 (x : Int32) (h0 : ¬ 250000 < x) : ¬ 0 < (lg_cmp (x).toInt64 250000) := by
  have e0 : (0 : Int32).toInt = 0 := by decide
  have e1 : (250000 : Int32).toInt = 250000 := by decide
  have f0 : (0 : Int64).toInt = 0 := by decide
  have f1 : (250000 : Int64).toInt = 250000 := by decide
  simp only [lg_cmp_lt0, lg_cmp_le0, lg_cmp_gt0, lg_cmp_ge0, lg_cmp_eq0] at *
  simp only [Int64.lt_iff_toInt_lt, Int64.le_iff_toInt_le, ← Int64.toInt_inj, Int32.toInt_toInt64, Int32.lt_iff_toInt_lt, Int32.le_iff_toInt_le, ← Int32.toInt_inj, e0, e1, f0, f1] at *
  omega

theorem iv31 (x : Int32) (h0 : 125000 < x) : 0 < (lg_cmp (x).toInt64 125000) := by
  have e0 : (0 : Int32).toInt = 0 := by decide
  have e1 : (125000 : Int32).toInt = 125000 := by decide
  have f0 : (0 : Int64).toInt = 0 := by decide
  have f1 : (125000 : Int64).toInt = 125000 := by decide
  simp only [lg_cmp_lt0, lg_cmp_le0, lg_cmp_gt0, lg_cmp_ge0, lg_cmp_eq0] at *
  simp only [Int64.lt_iff_toInt_lt, Int64.le_iff_toInt_le, ← Int64.toInt_inj, Int32.toInt_toInt64, Int32.lt_iff_toInt_lt, Int32.le_iff_toInt_le, ← Int32.toInt_inj, e0, e1, f0, f1] at *
  omega

set_option maxHeartbeats 4000000 in
set_option maxRecDepth 100000 in
theorem k_X6_costOf_2 (l : Launch) (D : va_G) (κ ε : Nat → Nat) (h0 h1 h2 h3 : Nat) (sz : Nat) (p0 : Int32) (hf0 : ¬ 250000 < p0) (hf1 : 125000 < p0) : Met l yX6_costOf wsX6_costOf ({ frames := 1, cells := 0, slots := 0, locals := 26 }) (va_Pc [.ref h0, .int p0] (Pre2 D κ ε [(h0, .inr (8, [.int 0, .int 0, .int 2, .ref h1, .ref h2, .int 0, .int 500, .int 0, .int 0, .int 0, .ref h3]))] sz)) (va_Qi (fun r (u : List Value) => (0 < (lg_cmp (p0).toInt64 0)) ∧ ((lg_cmp (p0).toInt64 1000000) < 0) ∧ (¬ 0 < (lg_cmp (p0).toInt64 500000)) ∧ (¬ 0 < (lg_cmp (p0).toInt64 250000)) ∧ (0 < (lg_cmp (p0).toInt64 125000)) ∧ (u[0]? = some (.int 0)) ∧ (r = ((2048 + ((1024 * (250000 - (p0).toInt64)) / 125000))).toInt32)) (fun u t => va_P D vwCl [(h0, .inr (8, u))] t.heap ∧ va_D (va_A [(h0, .inr (8, [.int 0, .int 0, .int 2, .ref h1, .ref h2, .int 0, .int 500, .int 0, .int 0, .int 0, .ref h3]))] sz) [(h0, .inr (8, u))]) (va_A [(h0, .inr (8, [.int 0, .int 0, .int 2, .ref h1, .ref h2, .int 0, .int 500, .int 0, .int 0, .int 0, .ref h3]))] sz)) 0 0 (va_A [(h0, .inr (8, [.int 0, .int 0, .int 2, .ref h1, .ref h2, .int 0, .int 500, .int 0, .int 0, .int 0, .ref h3]))] sz) := by
  refine Met.ofW (cc := cX6_costOf) (maxL := 2) (ret := (some .int)) (by decide) rfl ?_
  intro p e s m args below meth c s₁ B hml hv
  obtain ⟨rfl, hsz, hP, hK, hD0, hE9⟩ := hv
  have hx := B.exec
  have hb := B.bytes
  have hr := B.returns
  have hts := atoms_spec (ws := wsX6_costOf) B.pre
  have hown : s.vm.findClass RX6 = some m.cls := findClass_of_methodNamed B.named
  have hlocks := B.notSynchronized
  subst hsz
  have hD := hD0.self (sz := s.heap.size)
  generalize hAe : va_A [(h0, .inr (8, [.int 0, .int 0, .int 2, .ref h1, .ref h2, .int 0, .int 500, .int 0, .int 0, .int 0, .ref h3]))] s.heap.size = A at hD hE9 ⊢
  have hE := hE9.1
  have hDc := hE9.2
  have hA : ∀ q : Nat, s.heap.size ≤ q → A q := fun q h => by rw [← hAe]; exact Or.inr h
  have hS : va_S A s.heap s.heap [] := va_S.rf
  have hP : va_P D vwCl [(h0, .inr (8, [.int 0, .int 0, .int 2, .ref h1, .ref h2, .int 0, .int 500, .int 0, .int 0, .int 0, .ref h3]))] s.heap := hP
  have hl := lv_entry [.ref h0, .int p0] (n := 2) (Nat.le_of_ble_eq_true rfl)
  rw [lg_entry_eq]
  generalize (lg_sl [.ref h0, .int p0] ++ List.replicate (2 - (lg_sl [.ref h0, .int p0]).length) Slot.unset).toArray = ls at hl ⊢
  have hl : lv_has ls 2 [(0, .ref h0), (1, .int p0)] := hl
  refine lv_aload_n hx hb dX6_costOf_0 rfl (lv_at hl 0 rfl) ?_
  refine lv_iload_n hx hb dX6_costOf_1 rfl (lv_at hl 1 rfl) ?_
  refine lv_i2l (v := (p0).toInt64) hx hb dX6_costOf_2 rfl ?_
  refine vp_callSi (W.runS (As := [.long (p0).toInt64]) (rest := [.ref h0]) ⟨hx, hb, hml, hown, hts⟩ (k_X6_cost_0 l D κ ε ((p0).toInt64)) (va_cwS 1 hts gX6_costOf_X6_cost rfl rfl rfl (by decide +kernel) ⟨(Nat.le_of_ble_eq_true rfl), (Nat.le_of_ble_eq_true rfl)⟩) (pre0_S (wc := []) hP hK [] rfl) rfl rfl hl.1 rfl (lv_room (Nat.le_of_ble_eq_true rfl)) dX6_costOf_3 ⟨(Nat.le_of_ble_eq_true rfl), (Nat.le_of_ble_eq_true rfl)⟩) (fun r hw => ?_)
  rcases hw with ⟨c1, c2, c3, hv4⟩ | ⟨c5, c6, c7, c8, hv9⟩ | ⟨c10, c11, c12, c13, c14, hv15⟩ | ⟨c16, c17, c18, c19, c20, c21, hv22⟩ | ⟨c23, c24, c25, c26, c27, c28, c29, hv30⟩ | ⟨c31, c32, c33, c34, c35, c36, c37, c38, hv39⟩ | ⟨c40, c41, c42, c43, c44, c45, c46, c47, c48, hv49⟩ | ⟨c50, c51, c52, c53, c54, c55, c56, c57, c58, c59, hv60⟩ | ⟨c61, c62, c63, c64, c65, c66, c67, c68, c69, c70, c71, hv72⟩ | ⟨c73, c74, c75, c76, c77, c78, c79, c80, c81, c82, c83, c84, hv85⟩ | ⟨c86, c87, c88, c89, c90, c91, c92, c93, c94, c95, c96, c97, c98, hv99⟩ | ⟨c100, c101, c102, c103, c104, c105, c106, c107, c108, c109, c110, c111, c112, c113, hv114⟩ | ⟨c115, c116, c117, c118, c119, c120, c121, c122, c123, c124, c125, c126, c127, c128, c129, hv130⟩ | ⟨c131, c132, c133, c134, c135, c136, c137, c138, c139, c140, c141, c142, c143, c144, c145, c146, hv147⟩ | ⟨c148, c149, c150, c151, c152, c153, c154, c155, c156, c157, c158, c159, c160, c161, c162, c163, c164, hv165⟩ | ⟨c166, c167, c168, c169, c170, c171, c172, c173, c174, c175, c176, c177, c178, c179, c180, c181, c182, c183, hv184⟩ | ⟨c185, c186, c187, c188, c189, c190, c191, c192, c193, c194, c195, c196, c197, c198, c199, c200, c201, c202, c203, hv204⟩ | ⟨c205, c206, c207, c208, c209, c210, c211, c212, c213, c214, c215, c216, c217, c218, c219, c220, c221, c222, c223, c224, hv225⟩ | ⟨c226, c227, c228, c229, c230, c231, c232, c233, c234, c235, c236, c237, c238, c239, c240, c241, c242, c243, c244, c245, c246, hv247⟩ | ⟨c248, c249, c250, c251, c252, c253, c254, c255, c256, c257, c258, c259, c260, c261, c262, c263, c264, c265, c266, c267, c268, hv269⟩ | ⟨c270, c271, rfl⟩ | ⟨c272, rfl⟩
  · skip
    rw [hv4]
    exact absurd c3 (iv29 _ hf0)
  · skip
    rw [hv9]
    exact absurd c8 (iv30 _ hf0)
  · skip
    rw [hv15]
    have hF := va_free (wc := [(h0, .inr (8, [.int 0, .int 0, .int 2, .ref h1, .ref h2, .int 0, .int 500, .int 0, .int 0, .int 0, .ref h3]))]) hD hS hA [0] rfl
    refine va_calli (va_runV (As := [.int ((2048 + ((1024 * (250000 - (p0).toInt64)) / 125000))).toInt32]) (rest := []) ⟨hx, hb, hml, hown, hts⟩ (k_X6_plain_2 l D κ ε h0 h1 h2 h3 s.heap.size (((2048 + ((1024 * (250000 - (p0).toInt64)) / 125000))).toInt32) (0) (0) (2) (0) (500) (0) (0)) (cwV 1 hts gX6_costOf_X6_plain rfl rfl rfl (by decide +kernel) ⟨(Nat.le_of_ble_eq_true rfl), (Nat.le_of_ble_eq_true rfl)⟩) (pre2_V (q0 := 0) (ci := 8) (wc := [(h0, .inr (8, [.int 0, .int 0, .int 2, .ref h1, .ref h2, .int 0, .int 500, .int 0, .int 0, .int 0, .ref h3]))]) hP hD hK hE9 hS hA [0] (by decide) rfl rfl rfl) rfl rfl hl.1 rfl (lv_room (Nat.le_of_ble_eq_true rfl)) dX6_costOf_6 ⟨(Nat.le_of_ble_eq_true rfl), (Nat.le_of_ble_eq_true rfl)⟩) hS (fun q _ h => hF q h) hF (fun r u273 t H locs ht hvm hw hB hz1 hk1 hS => ?_)
    try dsimp only at hw hB
    obtain ⟨hP1, hD1⟩ := hB
    rw [ht] at hP1
    obtain ⟨hP, hD⟩ := post_j (ws' := [(h0, .inr (8, [.int 0, .int 0, .int 2, .ref h1, .ref h2, .int 0, .int 500, .int 0, .int 0, .int 0, .ref h3]))]) (wr := []) (w1 := [(h0, .inr (8, [.int 0, .int 0, .int 2, .ref h1, .ref h2, .int 0, .int 500, .int 0, .int 0, .int 0, .ref h3]))]) hP hD hF [0] rfl [] rfl (by decide) (by decide) hk1 hP1 hD1 [0] (by decide) rfl
    have hP : va_P D vwCl [(h0, .inr (8, [.int 0, .int 0, .int 2, .ref h1, .ref h2, .int 0, .int 500, .int 0, .int 0, .int 0, .ref h3]))] H := hP
    have hD : va_D A [(h0, .inr (8, [.int 0, .int 0, .int 2, .ref h1, .ref h2, .int 0, .int 500, .int 0, .int 0, .int 0, .ref h3]))] := hD
    rw [hw]
    have hP9 := hP.sub (ws' := [(h0, .inr (8, [.int 0, .int 0, .int 2, .ref h1, .ref h2, .int 0, .int 500, .int 0, .int 0, .int 0, .ref h3]))]) [0] rfl
    have hD9 := hD.sub (ws' := [(h0, .inr (8, [.int 0, .int 0, .int 2, .ref h1, .ref h2, .int 0, .int 500, .int 0, .int 0, .int 0, .ref h3]))]) [0] (by decide) rfl
    exact W.iret (v := ((2048 + ((1024 * (250000 - (p0).toInt64)) / 125000))).toInt32) hx hb hr (fun t ht hW => ⟨⟨((2048 + ((1024 * (250000 - (p0).toInt64)) / 125000))).toInt32, [.int 0, .int 0, .int 2, .ref h1, .ref h2, .int 0, .int 500, .int 0, .int 0, .int 0, .ref h3], rfl, ⟨c10, c11, c12, c13, c14, rfl, rfl⟩, by rw [ht]; exact hP9, hD9⟩, hS.F ht⟩) hS.2.2 dX6_costOf_9
  · skip
    rw [hv22]
    exact absurd (iv31 _ hf1) c20
  · skip
    rw [hv30]
    exact absurd (iv31 _ hf1) c27
  · skip
    rw [hv39]
    exact absurd (iv31 _ hf1) c35
  · skip
    rw [hv49]
    exact absurd (iv31 _ hf1) c44
  · skip
    rw [hv60]
    exact absurd (iv31 _ hf1) c54
  · skip
    rw [hv72]
    exact absurd (iv31 _ hf1) c65
  · skip
    rw [hv85]
    exact absurd (iv31 _ hf1) c77
  · skip
    rw [hv99]
    exact absurd (iv31 _ hf1) c90
  · skip
    rw [hv114]
    exact absurd (iv31 _ hf1) c104
  · skip
    rw [hv130]
    exact absurd (iv31 _ hf1) c119
  · skip
    rw [hv147]
    exact absurd (iv31 _ hf1) c135
  · skip
    rw [hv165]
    exact absurd (iv31 _ hf1) c152
  · skip
    rw [hv184]
    exact absurd (iv31 _ hf1) c170
  · skip
    rw [hv204]
    exact absurd (iv31 _ hf1) c189
  · skip
    rw [hv225]
    exact absurd (iv31 _ hf1) c209
  · skip
    rw [hv247]
    exact absurd (iv31 _ hf1) c230
  · skip
    rw [hv269]
    exact absurd (iv31 _ hf1) c252
  · skip
    exact absurd (iv28 _ hf0) c271
  · skip
    exact absurd (iv27 _ hf1) c272

theorem iv32 (x : Int32) (h0 : 0 < (lg_cmp (x).toInt64 125000)) : 0 < x := by
  have e0 : (0 : Int32).toInt = 0 := by decide
  have e1 : (125000 : Int32).toInt = 125000 := by decide
  have f0 : (0 : Int64).toInt = 0 := by decide
  have f1 : (125000 : Int64).toInt = 125000 := by decide
  simp only [lg_cmp_lt0, lg_cmp_le0, lg_cmp_gt0, lg_cmp_ge0, lg_cmp_eq0] at *
  simp only [Int64.lt_iff_toInt_lt, Int64.le_iff_toInt_le, ← Int64.toInt_inj, Int32.toInt_toInt64, Int32.lt_iff_toInt_lt, Int32.le_iff_toInt_le, ← Int32.toInt_inj, e0, e1, f0, f1] at *
  omega

theorem iv33 (x : Int32) (h0 : ¬ 0 < (lg_cmp (x).toInt64 250000)) : x ≤ 250000 := by
  have e0 : (0 : Int32).toInt = 0 := by decide
  have e1 : (250000 : Int32).toInt = 250000 := by decide
  have f0 : (0 : Int64).toInt = 0 := by decide
  have f1 : (250000 : Int64).toInt = 250000 := by decide
  simp only [lg_cmp_lt0, lg_cmp_le0, lg_cmp_gt0, lg_cmp_ge0, lg_cmp_eq0] at *
  simp only [Int64.lt_iff_toInt_lt, Int64.le_iff_toInt_le, ← Int64.toInt_inj, Int32.toInt_toInt64, Int32.lt_iff_toInt_lt, Int32.le_iff_toInt_le, ← Int32.toInt_inj, e0, e1, f0, f1] at *
  omega

theorem iv34 (x : Int32) (h0 : 62500 < x) : 0 < (lg_cmp (x).toInt64 0) := by
  have e0 : (0 : Int32).toInt = 0 := by decide
  have e1 : (62500 : Int32).toInt = 62500 := by decide
  have f0 : (0 : Int64).toInt = 0 := by decide
  have f1 : (62500 : Int64).toInt = 62500 := by decide
  simp only [lg_cmp_lt0, lg_cmp_le0, lg_cmp_gt0, lg_cmp_ge0, lg_cmp_eq0] at *
  simp only [Int64.lt_iff_toInt_lt, Int64.le_iff_toInt_le, ← Int64.toInt_inj, Int32.toInt_toInt64, Int32.lt_iff_toInt_lt, Int32.le_iff_toInt_le, ← Int32.toInt_inj, e0, e1, f0, f1] at *
  omega

theorem iv35 (x : Int32) (h0 : ¬ 125000 < x) : (lg_cmp (x).toInt64 1000000) < 0 := by
  have e0 : (0 : Int32).toInt = 0 := by decide
  have e1 : (125000 : Int32).toInt = 125000 := by decide
  have e2 : (1000000 : Int32).toInt = 1000000 := by decide
  have f0 : (0 : Int64).toInt = 0 := by decide
  have f1 : (125000 : Int64).toInt = 125000 := by decide
  have f2 : (1000000 : Int64).toInt = 1000000 := by decide
  simp only [lg_cmp_lt0, lg_cmp_le0, lg_cmp_gt0, lg_cmp_ge0, lg_cmp_eq0] at *
  simp only [Int64.lt_iff_toInt_lt, Int64.le_iff_toInt_le, ← Int64.toInt_inj, Int32.toInt_toInt64, Int32.lt_iff_toInt_lt, Int32.le_iff_toInt_le, ← Int32.toInt_inj, e0, e1, e2, f0, f1, f2] at *
  omega

theorem iv36 (x : Int32) (h0 : ¬ 125000 < x) : ¬ 0 < (lg_cmp (x).toInt64 500000) := by
  have e0 : (0 : Int32).toInt = 0 := by decide
  have e1 : (125000 : Int32).toInt = 125000 := by decide
  have e2 : (500000 : Int32).toInt = 500000 := by decide
  have f0 : (0 : Int64).toInt = 0 := by decide
  have f1 : (125000 : Int64).toInt = 125000 := by decide
  have f2 : (500000 : Int64).toInt = 500000 := by decide
  simp only [lg_cmp_lt0, lg_cmp_le0, lg_cmp_gt0, lg_cmp_ge0, lg_cmp_eq0] at *
  simp only [Int64.lt_iff_toInt_lt, Int64.le_iff_toInt_le, ← Int64.toInt_inj, Int32.toInt_toInt64, Int32.lt_iff_toInt_lt, Int32.le_iff_toInt_le, ← Int32.toInt_inj, e0, e1, e2, f0, f1, f2] at *
  omega

theorem iv37 (x : Int32) (h0 : ¬ 125000 < x) : ¬ 0 < (lg_cmp (x).toInt64 250000) := by
  have e0 : (0 : Int32).toInt = 0 := by decide
  have e1 : (125000 : Int32).toInt = 125000 := by decide
  have e2 : (250000 : Int32).toInt = 250000 := by decide
  have f0 : (0 : Int64).toInt = 0 := by decide
  have f1 : (125000 : Int64).toInt = 125000 := by decide
  have f2 : (250000 : Int64).toInt = 250000 := by decide
  simp only [lg_cmp_lt0, lg_cmp_le0, lg_cmp_gt0, lg_cmp_ge0, lg_cmp_eq0] at *
  simp only [Int64.lt_iff_toInt_lt, Int64.le_iff_toInt_le, ← Int64.toInt_inj, Int32.toInt_toInt64, Int32.lt_iff_toInt_lt, Int32.le_iff_toInt_le, ← Int32.toInt_inj, e0, e1, e2, f0, f1, f2] at *
  omega

theorem iv38 (x : Int32) (h0 : ¬ 125000 < x) : ¬ 0 < (lg_cmp (x).toInt64 125000) := by
  have e0 : (0 : Int32).toInt = 0 := by decide
  have e1 : (125000 : Int32).toInt = 125000 := by decide
  have f0 : (0 : Int64).toInt = 0 := by decide
  have f1 : (125000 : Int64).toInt = 125000 := by decide
  simp only [lg_cmp_lt0, lg_cmp_le0, lg_cmp_gt0, lg_cmp_ge0, lg_cmp_eq0] at *
  simp only [Int64.lt_iff_toInt_lt, Int64.le_iff_toInt_le, ← Int64.toInt_inj, Int32.toInt_toInt64, Int32.lt_iff_toInt_lt, Int32.le_iff_toInt_le, ← Int32.toInt_inj, e0, e1, f0, f1] at *
  omega

theorem iv39 (x : Int32) (h0 : 62500 < x) : 0 < (lg_cmp (x).toInt64 62500) := by
  have e0 : (0 : Int32).toInt = 0 := by decide
  have e1 : (62500 : Int32).toInt = 62500 := by decide
  have f0 : (0 : Int64).toInt = 0 := by decide
  have f1 : (62500 : Int64).toInt = 62500 := by decide
  simp only [lg_cmp_lt0, lg_cmp_le0, lg_cmp_gt0, lg_cmp_ge0, lg_cmp_eq0] at *
  simp only [Int64.lt_iff_toInt_lt, Int64.le_iff_toInt_le, ← Int64.toInt_inj, Int32.toInt_toInt64, Int32.lt_iff_toInt_lt, Int32.le_iff_toInt_le, ← Int32.toInt_inj, e0, e1, f0, f1] at *
  omega

set_option maxHeartbeats 4000000 in
set_option maxRecDepth 100000 in
theorem k_X6_costOf_3 (l : Launch) (D : va_G) (κ ε : Nat → Nat) (h0 h1 h2 h3 : Nat) (sz : Nat) (p0 : Int32) (hf0 : ¬ 125000 < p0) (hf1 : 62500 < p0) : Met l yX6_costOf wsX6_costOf ({ frames := 1, cells := 0, slots := 0, locals := 26 }) (va_Pc [.ref h0, .int p0] (Pre2 D κ ε [(h0, .inr (8, [.int 0, .int 0, .int 2, .ref h1, .ref h2, .int 0, .int 500, .int 0, .int 0, .int 0, .ref h3]))] sz)) (va_Qi (fun r (u : List Value) => (0 < (lg_cmp (p0).toInt64 0)) ∧ ((lg_cmp (p0).toInt64 1000000) < 0) ∧ (¬ 0 < (lg_cmp (p0).toInt64 500000)) ∧ (¬ 0 < (lg_cmp (p0).toInt64 250000)) ∧ (¬ 0 < (lg_cmp (p0).toInt64 125000)) ∧ (0 < (lg_cmp (p0).toInt64 62500)) ∧ (u[0]? = some (.int 0)) ∧ (r = ((3072 + ((1024 * (125000 - (p0).toInt64)) / 62500))).toInt32)) (fun u t => va_P D vwCl [(h0, .inr (8, u))] t.heap ∧ va_D (va_A [(h0, .inr (8, [.int 0, .int 0, .int 2, .ref h1, .ref h2, .int 0, .int 500, .int 0, .int 0, .int 0, .ref h3]))] sz) [(h0, .inr (8, u))]) (va_A [(h0, .inr (8, [.int 0, .int 0, .int 2, .ref h1, .ref h2, .int 0, .int 500, .int 0, .int 0, .int 0, .ref h3]))] sz)) 0 0 (va_A [(h0, .inr (8, [.int 0, .int 0, .int 2, .ref h1, .ref h2, .int 0, .int 500, .int 0, .int 0, .int 0, .ref h3]))] sz) := by
  refine Met.ofW (cc := cX6_costOf) (maxL := 2) (ret := (some .int)) (by decide) rfl ?_
  intro p e s m args below meth c s₁ B hml hv
  obtain ⟨rfl, hsz, hP, hK, hD0, hE9⟩ := hv
  have hx := B.exec
  have hb := B.bytes
  have hr := B.returns
  have hts := atoms_spec (ws := wsX6_costOf) B.pre
  have hown : s.vm.findClass RX6 = some m.cls := findClass_of_methodNamed B.named
  have hlocks := B.notSynchronized
  subst hsz
  have hD := hD0.self (sz := s.heap.size)
  generalize hAe : va_A [(h0, .inr (8, [.int 0, .int 0, .int 2, .ref h1, .ref h2, .int 0, .int 500, .int 0, .int 0, .int 0, .ref h3]))] s.heap.size = A at hD hE9 ⊢
  have hE := hE9.1
  have hDc := hE9.2
  have hA : ∀ q : Nat, s.heap.size ≤ q → A q := fun q h => by rw [← hAe]; exact Or.inr h
  have hS : va_S A s.heap s.heap [] := va_S.rf
  have hP : va_P D vwCl [(h0, .inr (8, [.int 0, .int 0, .int 2, .ref h1, .ref h2, .int 0, .int 500, .int 0, .int 0, .int 0, .ref h3]))] s.heap := hP
  have hl := lv_entry [.ref h0, .int p0] (n := 2) (Nat.le_of_ble_eq_true rfl)
  rw [lg_entry_eq]
  generalize (lg_sl [.ref h0, .int p0] ++ List.replicate (2 - (lg_sl [.ref h0, .int p0]).length) Slot.unset).toArray = ls at hl ⊢
  have hl : lv_has ls 2 [(0, .ref h0), (1, .int p0)] := hl
  refine lv_aload_n hx hb dX6_costOf_0 rfl (lv_at hl 0 rfl) ?_
  refine lv_iload_n hx hb dX6_costOf_1 rfl (lv_at hl 1 rfl) ?_
  refine lv_i2l (v := (p0).toInt64) hx hb dX6_costOf_2 rfl ?_
  refine vp_callSi (W.runS (As := [.long (p0).toInt64]) (rest := [.ref h0]) ⟨hx, hb, hml, hown, hts⟩ (k_X6_cost_0 l D κ ε ((p0).toInt64)) (va_cwS 1 hts gX6_costOf_X6_cost rfl rfl rfl (by decide +kernel) ⟨(Nat.le_of_ble_eq_true rfl), (Nat.le_of_ble_eq_true rfl)⟩) (pre0_S (wc := []) hP hK [] rfl) rfl rfl hl.1 rfl (lv_room (Nat.le_of_ble_eq_true rfl)) dX6_costOf_3 ⟨(Nat.le_of_ble_eq_true rfl), (Nat.le_of_ble_eq_true rfl)⟩) (fun r hw => ?_)
  rcases hw with ⟨c1, c2, c3, hv4⟩ | ⟨c5, c6, c7, c8, hv9⟩ | ⟨c10, c11, c12, c13, c14, hv15⟩ | ⟨c16, c17, c18, c19, c20, c21, hv22⟩ | ⟨c23, c24, c25, c26, c27, c28, c29, hv30⟩ | ⟨c31, c32, c33, c34, c35, c36, c37, c38, hv39⟩ | ⟨c40, c41, c42, c43, c44, c45, c46, c47, c48, hv49⟩ | ⟨c50, c51, c52, c53, c54, c55, c56, c57, c58, c59, hv60⟩ | ⟨c61, c62, c63, c64, c65, c66, c67, c68, c69, c70, c71, hv72⟩ | ⟨c73, c74, c75, c76, c77, c78, c79, c80, c81, c82, c83, c84, hv85⟩ | ⟨c86, c87, c88, c89, c90, c91, c92, c93, c94, c95, c96, c97, c98, hv99⟩ | ⟨c100, c101, c102, c103, c104, c105, c106, c107, c108, c109, c110, c111, c112, c113, hv114⟩ | ⟨c115, c116, c117, c118, c119, c120, c121, c122, c123, c124, c125, c126, c127, c128, c129, hv130⟩ | ⟨c131, c132, c133, c134, c135, c136, c137, c138, c139, c140, c141, c142, c143, c144, c145, c146, hv147⟩ | ⟨c148, c149, c150, c151, c152, c153, c154, c155, c156, c157, c158, c159, c160, c161, c162, c163, c164, hv165⟩ | ⟨c166, c167, c168, c169, c170, c171, c172, c173, c174, c175, c176, c177, c178, c179, c180, c181, c182, c183, hv184⟩ | ⟨c185, c186, c187, c188, c189, c190, c191, c192, c193, c194, c195, c196, c197, c198, c199, c200, c201, c202, c203, hv204⟩ | ⟨c205, c206, c207, c208, c209, c210, c211, c212, c213, c214, c215, c216, c217, c218, c219, c220, c221, c222, c223, c224, hv225⟩ | ⟨c226, c227, c228, c229, c230, c231, c232, c233, c234, c235, c236, c237, c238, c239, c240, c241, c242, c243, c244, c245, c246, hv247⟩ | ⟨c248, c249, c250, c251, c252, c253, c254, c255, c256, c257, c258, c259, c260, c261, c262, c263, c264, c265, c266, c267, c268, hv269⟩ | ⟨c270, c271, rfl⟩ | ⟨c272, rfl⟩
  · skip
    rw [hv4]
    exact absurd c3 (iv36 _ hf0)
  · skip
    rw [hv9]
    exact absurd c8 (iv37 _ hf0)
  · skip
    rw [hv15]
    exact absurd c14 (iv38 _ hf0)
  · skip
    rw [hv22]
    have hF := va_free (wc := [(h0, .inr (8, [.int 0, .int 0, .int 2, .ref h1, .ref h2, .int 0, .int 500, .int 0, .int 0, .int 0, .ref h3]))]) hD hS hA [0] rfl
    refine va_calli (va_runV (As := [.int ((3072 + ((1024 * (125000 - (p0).toInt64)) / 62500))).toInt32]) (rest := []) ⟨hx, hb, hml, hown, hts⟩ (k_X6_plain_2 l D κ ε h0 h1 h2 h3 s.heap.size (((3072 + ((1024 * (125000 - (p0).toInt64)) / 62500))).toInt32) (0) (0) (2) (0) (500) (0) (0)) (cwV 1 hts gX6_costOf_X6_plain rfl rfl rfl (by decide +kernel) ⟨(Nat.le_of_ble_eq_true rfl), (Nat.le_of_ble_eq_true rfl)⟩) (pre2_V (q0 := 0) (ci := 8) (wc := [(h0, .inr (8, [.int 0, .int 0, .int 2, .ref h1, .ref h2, .int 0, .int 500, .int 0, .int 0, .int 0, .ref h3]))]) hP hD hK hE9 hS hA [0] (by decide) rfl rfl rfl) rfl rfl hl.1 rfl (lv_room (Nat.le_of_ble_eq_true rfl)) dX6_costOf_6 ⟨(Nat.le_of_ble_eq_true rfl), (Nat.le_of_ble_eq_true rfl)⟩) hS (fun q _ h => hF q h) hF (fun r u273 t H locs ht hvm hw hB hz1 hk1 hS => ?_)
    try dsimp only at hw hB
    obtain ⟨hP1, hD1⟩ := hB
    rw [ht] at hP1
    obtain ⟨hP, hD⟩ := post_j (ws' := [(h0, .inr (8, [.int 0, .int 0, .int 2, .ref h1, .ref h2, .int 0, .int 500, .int 0, .int 0, .int 0, .ref h3]))]) (wr := []) (w1 := [(h0, .inr (8, [.int 0, .int 0, .int 2, .ref h1, .ref h2, .int 0, .int 500, .int 0, .int 0, .int 0, .ref h3]))]) hP hD hF [0] rfl [] rfl (by decide) (by decide) hk1 hP1 hD1 [0] (by decide) rfl
    have hP : va_P D vwCl [(h0, .inr (8, [.int 0, .int 0, .int 2, .ref h1, .ref h2, .int 0, .int 500, .int 0, .int 0, .int 0, .ref h3]))] H := hP
    have hD : va_D A [(h0, .inr (8, [.int 0, .int 0, .int 2, .ref h1, .ref h2, .int 0, .int 500, .int 0, .int 0, .int 0, .ref h3]))] := hD
    rw [hw]
    have hP9 := hP.sub (ws' := [(h0, .inr (8, [.int 0, .int 0, .int 2, .ref h1, .ref h2, .int 0, .int 500, .int 0, .int 0, .int 0, .ref h3]))]) [0] rfl
    have hD9 := hD.sub (ws' := [(h0, .inr (8, [.int 0, .int 0, .int 2, .ref h1, .ref h2, .int 0, .int 500, .int 0, .int 0, .int 0, .ref h3]))]) [0] (by decide) rfl
    exact W.iret (v := ((3072 + ((1024 * (125000 - (p0).toInt64)) / 62500))).toInt32) hx hb hr (fun t ht hW => ⟨⟨((3072 + ((1024 * (125000 - (p0).toInt64)) / 62500))).toInt32, [.int 0, .int 0, .int 2, .ref h1, .ref h2, .int 0, .int 500, .int 0, .int 0, .int 0, .ref h3], rfl, ⟨c16, c17, c18, c19, c20, c21, rfl, rfl⟩, by rw [ht]; exact hP9, hD9⟩, hS.F ht⟩) hS.2.2 dX6_costOf_9
  · skip
    rw [hv30]
    exact absurd (iv39 _ hf1) c28
  · skip
    rw [hv39]
    exact absurd (iv39 _ hf1) c36
  · skip
    rw [hv49]
    exact absurd (iv39 _ hf1) c45
  · skip
    rw [hv60]
    exact absurd (iv39 _ hf1) c55
  · skip
    rw [hv72]
    exact absurd (iv39 _ hf1) c66
  · skip
    rw [hv85]
    exact absurd (iv39 _ hf1) c78
  · skip
    rw [hv99]
    exact absurd (iv39 _ hf1) c91
  · skip
    rw [hv114]
    exact absurd (iv39 _ hf1) c105
  · skip
    rw [hv130]
    exact absurd (iv39 _ hf1) c120
  · skip
    rw [hv147]
    exact absurd (iv39 _ hf1) c136
  · skip
    rw [hv165]
    exact absurd (iv39 _ hf1) c153
  · skip
    rw [hv184]
    exact absurd (iv39 _ hf1) c171
  · skip
    rw [hv204]
    exact absurd (iv39 _ hf1) c190
  · skip
    rw [hv225]
    exact absurd (iv39 _ hf1) c210
  · skip
    rw [hv247]
    exact absurd (iv39 _ hf1) c231
  · skip
    rw [hv269]
    exact absurd (iv39 _ hf1) c253
  · skip
    exact absurd (iv35 _ hf0) c271
  · skip
    exact absurd (iv34 _ hf1) c272

theorem iv40 (x : Int32) (h0 : 0 < (lg_cmp (x).toInt64 62500)) : 0 < x := by
  have e0 : (0 : Int32).toInt = 0 := by decide
  have e1 : (62500 : Int32).toInt = 62500 := by decide
  have f0 : (0 : Int64).toInt = 0 := by decide
  have f1 : (62500 : Int64).toInt = 62500 := by decide
  simp only [lg_cmp_lt0, lg_cmp_le0, lg_cmp_gt0, lg_cmp_ge0, lg_cmp_eq0] at *
  simp only [Int64.lt_iff_toInt_lt, Int64.le_iff_toInt_le, ← Int64.toInt_inj, Int32.toInt_toInt64, Int32.lt_iff_toInt_lt, Int32.le_iff_toInt_le, ← Int32.toInt_inj, e0, e1, f0, f1] at *
  omega

theorem iv41 (x : Int32) (h0 : ¬ 0 < (lg_cmp (x).toInt64 125000)) : x ≤ 125000 := by
  have e0 : (0 : Int32).toInt = 0 := by decide
  have e1 : (125000 : Int32).toInt = 125000 := by decide
  have f0 : (0 : Int64).toInt = 0 := by decide
  have f1 : (125000 : Int64).toInt = 125000 := by decide
  simp only [lg_cmp_lt0, lg_cmp_le0, lg_cmp_gt0, lg_cmp_ge0, lg_cmp_eq0] at *
  simp only [Int64.lt_iff_toInt_lt, Int64.le_iff_toInt_le, ← Int64.toInt_inj, Int32.toInt_toInt64, Int32.lt_iff_toInt_lt, Int32.le_iff_toInt_le, ← Int32.toInt_inj, e0, e1, f0, f1] at *
  omega

theorem iv42 (x : Int32) (h0 : 31250 < x) : 0 < (lg_cmp (x).toInt64 0) := by
  have e0 : (0 : Int32).toInt = 0 := by decide
  have e1 : (31250 : Int32).toInt = 31250 := by decide
  have f0 : (0 : Int64).toInt = 0 := by decide
  have f1 : (31250 : Int64).toInt = 31250 := by decide
  simp only [lg_cmp_lt0, lg_cmp_le0, lg_cmp_gt0, lg_cmp_ge0, lg_cmp_eq0] at *
  simp only [Int64.lt_iff_toInt_lt, Int64.le_iff_toInt_le, ← Int64.toInt_inj, Int32.toInt_toInt64, Int32.lt_iff_toInt_lt, Int32.le_iff_toInt_le, ← Int32.toInt_inj, e0, e1, f0, f1] at *
  omega

theorem iv43 (x : Int32) (h0 : ¬ 62500 < x) : (lg_cmp (x).toInt64 1000000) < 0 := by
  have e0 : (0 : Int32).toInt = 0 := by decide
  have e1 : (62500 : Int32).toInt = 62500 := by decide
  have e2 : (1000000 : Int32).toInt = 1000000 := by decide
  have f0 : (0 : Int64).toInt = 0 := by decide
  have f1 : (62500 : Int64).toInt = 62500 := by decide
  have f2 : (1000000 : Int64).toInt = 1000000 := by decide
  simp only [lg_cmp_lt0, lg_cmp_le0, lg_cmp_gt0, lg_cmp_ge0, lg_cmp_eq0] at *
  simp only [Int64.lt_iff_toInt_lt, Int64.le_iff_toInt_le, ← Int64.toInt_inj, Int32.toInt_toInt64, Int32.lt_iff_toInt_lt, Int32.le_iff_toInt_le, ← Int32.toInt_inj, e0, e1, e2, f0, f1, f2] at *
  omega

theorem iv44 (x : Int32) (h0 : ¬ 62500 < x) : ¬ 0 < (lg_cmp (x).toInt64 500000) := by
  have e0 : (0 : Int32).toInt = 0 := by decide
  have e1 : (62500 : Int32).toInt = 62500 := by decide
  have e2 : (500000 : Int32).toInt = 500000 := by decide
  have f0 : (0 : Int64).toInt = 0 := by decide
  have f1 : (62500 : Int64).toInt = 62500 := by decide
  have f2 : (500000 : Int64).toInt = 500000 := by decide
  simp only [lg_cmp_lt0, lg_cmp_le0, lg_cmp_gt0, lg_cmp_ge0, lg_cmp_eq0] at *
  simp only [Int64.lt_iff_toInt_lt, Int64.le_iff_toInt_le, ← Int64.toInt_inj, Int32.toInt_toInt64, Int32.lt_iff_toInt_lt, Int32.le_iff_toInt_le, ← Int32.toInt_inj, e0, e1, e2, f0, f1, f2] at *
  omega

theorem iv45 (x : Int32) (h0 : ¬ 62500 < x) : ¬ 0 < (lg_cmp (x).toInt64 250000) := by
  have e0 : (0 : Int32).toInt = 0 := by decide
  have e1 : (62500 : Int32).toInt = 62500 := by decide
  have e2 : (250000 : Int32).toInt = 250000 := by decide
  have f0 : (0 : Int64).toInt = 0 := by decide
  have f1 : (62500 : Int64).toInt = 62500 := by decide
  have f2 : (250000 : Int64).toInt = 250000 := by decide
  simp only [lg_cmp_lt0, lg_cmp_le0, lg_cmp_gt0, lg_cmp_ge0, lg_cmp_eq0] at *
  simp only [Int64.lt_iff_toInt_lt, Int64.le_iff_toInt_le, ← Int64.toInt_inj, Int32.toInt_toInt64, Int32.lt_iff_toInt_lt, Int32.le_iff_toInt_le, ← Int32.toInt_inj, e0, e1, e2, f0, f1, f2] at *
  omega

theorem iv46 (x : Int32) (h0 : ¬ 62500 < x) : ¬ 0 < (lg_cmp (x).toInt64 125000) := by
  have e0 : (0 : Int32).toInt = 0 := by decide
  have e1 : (62500 : Int32).toInt = 62500 := by decide
  have e2 : (125000 : Int32).toInt = 125000 := by decide
  have f0 : (0 : Int64).toInt = 0 := by decide
  have f1 : (62500 : Int64).toInt = 62500 := by decide
  have f2 : (125000 : Int64).toInt = 125000 := by decide
  simp only [lg_cmp_lt0, lg_cmp_le0, lg_cmp_gt0, lg_cmp_ge0, lg_cmp_eq0] at *
  simp only [Int64.lt_iff_toInt_lt, Int64.le_iff_toInt_le, ← Int64.toInt_inj, Int32.toInt_toInt64, Int32.lt_iff_toInt_lt, Int32.le_iff_toInt_le, ← Int32.toInt_inj, e0, e1, e2, f0, f1, f2] at *
  omega

theorem iv47 (x : Int32) (h0 : ¬ 62500 < x) : ¬ 0 < (lg_cmp (x).toInt64 62500) := by
  have e0 : (0 : Int32).toInt = 0 := by decide
  have e1 : (62500 : Int32).toInt = 62500 := by decide
  have f0 : (0 : Int64).toInt = 0 := by decide
  have f1 : (62500 : Int64).toInt = 62500 := by decide
  simp only [lg_cmp_lt0, lg_cmp_le0, lg_cmp_gt0, lg_cmp_ge0, lg_cmp_eq0] at *
  simp only [Int64.lt_iff_toInt_lt, Int64.le_iff_toInt_le, ← Int64.toInt_inj, Int32.toInt_toInt64, Int32.lt_iff_toInt_lt, Int32.le_iff_toInt_le, ← Int32.toInt_inj, e0, e1, f0, f1] at *
  omega

theorem iv48 (x : Int32) (h0 : 31250 < x) : 0 < (lg_cmp (x).toInt64 31250) := by
  have e0 : (0 : Int32).toInt = 0 := by decide
  have e1 : (31250 : Int32).toInt = 31250 := by decide
  have f0 : (0 : Int64).toInt = 0 := by decide
  have f1 : (31250 : Int64).toInt = 31250 := by decide
  simp only [lg_cmp_lt0, lg_cmp_le0, lg_cmp_gt0, lg_cmp_ge0, lg_cmp_eq0] at *
  simp only [Int64.lt_iff_toInt_lt, Int64.le_iff_toInt_le, ← Int64.toInt_inj, Int32.toInt_toInt64, Int32.lt_iff_toInt_lt, Int32.le_iff_toInt_le, ← Int32.toInt_inj, e0, e1, f0, f1] at *
  omega

set_option maxHeartbeats 4000000 in
set_option maxRecDepth 100000 in
theorem k_X6_costOf_4 (l : Launch) (D : va_G) (κ ε : Nat → Nat) (h0 h1 h2 h3 : Nat) (sz : Nat) (p0 : Int32) (hf0 : ¬ 62500 < p0) (hf1 : 31250 < p0) : Met l yX6_costOf wsX6_costOf ({ frames := 1, cells := 0, slots := 0, locals := 26 }) (va_Pc [.ref h0, .int p0] (Pre2 D κ ε [(h0, .inr (8, [.int 0, .int 0, .int 2, .ref h1, .ref h2, .int 0, .int 500, .int 0, .int 0, .int 0, .ref h3]))] sz)) (va_Qi (fun r (u : List Value) => (0 < (lg_cmp (p0).toInt64 0)) ∧ ((lg_cmp (p0).toInt64 1000000) < 0) ∧ (¬ 0 < (lg_cmp (p0).toInt64 500000)) ∧ (¬ 0 < (lg_cmp (p0).toInt64 250000)) ∧ (¬ 0 < (lg_cmp (p0).toInt64 125000)) ∧ (¬ 0 < (lg_cmp (p0).toInt64 62500)) ∧ (0 < (lg_cmp (p0).toInt64 31250)) ∧ (u[0]? = some (.int 0)) ∧ (r = ((4096 + ((1024 * (62500 - (p0).toInt64)) / 31250))).toInt32)) (fun u t => va_P D vwCl [(h0, .inr (8, u))] t.heap ∧ va_D (va_A [(h0, .inr (8, [.int 0, .int 0, .int 2, .ref h1, .ref h2, .int 0, .int 500, .int 0, .int 0, .int 0, .ref h3]))] sz) [(h0, .inr (8, u))]) (va_A [(h0, .inr (8, [.int 0, .int 0, .int 2, .ref h1, .ref h2, .int 0, .int 500, .int 0, .int 0, .int 0, .ref h3]))] sz)) 0 0 (va_A [(h0, .inr (8, [.int 0, .int 0, .int 2, .ref h1, .ref h2, .int 0, .int 500, .int 0, .int 0, .int 0, .ref h3]))] sz) := by
  refine Met.ofW (cc := cX6_costOf) (maxL := 2) (ret := (some .int)) (by decide) rfl ?_
  intro p e s m args below meth c s₁ B hml hv
  obtain ⟨rfl, hsz, hP, hK, hD0, hE9⟩ := hv
  have hx := B.exec
  have hb := B.bytes
  have hr := B.returns
  have hts := atoms_spec (ws := wsX6_costOf) B.pre
  have hown : s.vm.findClass RX6 = some m.cls := findClass_of_methodNamed B.named
  have hlocks := B.notSynchronized
  subst hsz
  have hD := hD0.self (sz := s.heap.size)
  generalize hAe : va_A [(h0, .inr (8, [.int 0, .int 0, .int 2, .ref h1, .ref h2, .int 0, .int 500, .int 0, .int 0, .int 0, .ref h3]))] s.heap.size = A at hD hE9 ⊢
  have hE := hE9.1
  have hDc := hE9.2
  have hA : ∀ q : Nat, s.heap.size ≤ q → A q := fun q h => by rw [← hAe]; exact Or.inr h
  have hS : va_S A s.heap s.heap [] := va_S.rf
  have hP : va_P D vwCl [(h0, .inr (8, [.int 0, .int 0, .int 2, .ref h1, .ref h2, .int 0, .int 500, .int 0, .int 0, .int 0, .ref h3]))] s.heap := hP
  have hl := lv_entry [.ref h0, .int p0] (n := 2) (Nat.le_of_ble_eq_true rfl)
  rw [lg_entry_eq]
  generalize (lg_sl [.ref h0, .int p0] ++ List.replicate (2 - (lg_sl [.ref h0, .int p0]).length) Slot.unset).toArray = ls at hl ⊢
  have hl : lv_has ls 2 [(0, .ref h0), (1, .int p0)] := hl
  refine lv_aload_n hx hb dX6_costOf_0 rfl (lv_at hl 0 rfl) ?_
  refine lv_iload_n hx hb dX6_costOf_1 rfl (lv_at hl 1 rfl) ?_
  refine lv_i2l (v := (p0).toInt64) hx hb dX6_costOf_2 rfl ?_
  refine vp_callSi (W.runS (As := [.long (p0).toInt64]) (rest := [.ref h0]) ⟨hx, hb, hml, hown, hts⟩ (k_X6_cost_0 l D κ ε ((p0).toInt64)) (va_cwS 1 hts gX6_costOf_X6_cost rfl rfl rfl (by decide +kernel) ⟨(Nat.le_of_ble_eq_true rfl), (Nat.le_of_ble_eq_true rfl)⟩) (pre0_S (wc := []) hP hK [] rfl) rfl rfl hl.1 rfl (lv_room (Nat.le_of_ble_eq_true rfl)) dX6_costOf_3 ⟨(Nat.le_of_ble_eq_true rfl), (Nat.le_of_ble_eq_true rfl)⟩) (fun r hw => ?_)
  rcases hw with ⟨c1, c2, c3, hv4⟩ | ⟨c5, c6, c7, c8, hv9⟩ | ⟨c10, c11, c12, c13, c14, hv15⟩ | ⟨c16, c17, c18, c19, c20, c21, hv22⟩ | ⟨c23, c24, c25, c26, c27, c28, c29, hv30⟩ | ⟨c31, c32, c33, c34, c35, c36, c37, c38, hv39⟩ | ⟨c40, c41, c42, c43, c44, c45, c46, c47, c48, hv49⟩ | ⟨c50, c51, c52, c53, c54, c55, c56, c57, c58, c59, hv60⟩ | ⟨c61, c62, c63, c64, c65, c66, c67, c68, c69, c70, c71, hv72⟩ | ⟨c73, c74, c75, c76, c77, c78, c79, c80, c81, c82, c83, c84, hv85⟩ | ⟨c86, c87, c88, c89, c90, c91, c92, c93, c94, c95, c96, c97, c98, hv99⟩ | ⟨c100, c101, c102, c103, c104, c105, c106, c107, c108, c109, c110, c111, c112, c113, hv114⟩ | ⟨c115, c116, c117, c118, c119, c120, c121, c122, c123, c124, c125, c126, c127, c128, c129, hv130⟩ | ⟨c131, c132, c133, c134, c135, c136, c137, c138, c139, c140, c141, c142, c143, c144, c145, c146, hv147⟩ | ⟨c148, c149, c150, c151, c152, c153, c154, c155, c156, c157, c158, c159, c160, c161, c162, c163, c164, hv165⟩ | ⟨c166, c167, c168, c169, c170, c171, c172, c173, c174, c175, c176, c177, c178, c179, c180, c181, c182, c183, hv184⟩ | ⟨c185, c186, c187, c188, c189, c190, c191, c192, c193, c194, c195, c196, c197, c198, c199, c200, c201, c202, c203, hv204⟩ | ⟨c205, c206, c207, c208, c209, c210, c211, c212, c213, c214, c215, c216, c217, c218, c219, c220, c221, c222, c223, c224, hv225⟩ | ⟨c226, c227, c228, c229, c230, c231, c232, c233, c234, c235, c236, c237, c238, c239, c240, c241, c242, c243, c244, c245, c246, hv247⟩ | ⟨c248, c249, c250, c251, c252, c253, c254, c255, c256, c257, c258, c259, c260, c261, c262, c263, c264, c265, c266, c267, c268, hv269⟩ | ⟨c270, c271, rfl⟩ | ⟨c272, rfl⟩
  · skip
    rw [hv4]
    exact absurd c3 (iv44 _ hf0)
  · skip
    rw [hv9]
    exact absurd c8 (iv45 _ hf0)
  · skip
    rw [hv15]
    exact absurd c14 (iv46 _ hf0)
  · skip
    rw [hv22]
    exact absurd c21 (iv47 _ hf0)
  · skip
    rw [hv30]
    have hF := va_free (wc := [(h0, .inr (8, [.int 0, .int 0, .int 2, .ref h1, .ref h2, .int 0, .int 500, .int 0, .int 0, .int 0, .ref h3]))]) hD hS hA [0] rfl
    refine va_calli (va_runV (As := [.int ((4096 + ((1024 * (62500 - (p0).toInt64)) / 31250))).toInt32]) (rest := []) ⟨hx, hb, hml, hown, hts⟩ (k_X6_plain_2 l D κ ε h0 h1 h2 h3 s.heap.size (((4096 + ((1024 * (62500 - (p0).toInt64)) / 31250))).toInt32) (0) (0) (2) (0) (500) (0) (0)) (cwV 1 hts gX6_costOf_X6_plain rfl rfl rfl (by decide +kernel) ⟨(Nat.le_of_ble_eq_true rfl), (Nat.le_of_ble_eq_true rfl)⟩) (pre2_V (q0 := 0) (ci := 8) (wc := [(h0, .inr (8, [.int 0, .int 0, .int 2, .ref h1, .ref h2, .int 0, .int 500, .int 0, .int 0, .int 0, .ref h3]))]) hP hD hK hE9 hS hA [0] (by decide) rfl rfl rfl) rfl rfl hl.1 rfl (lv_room (Nat.le_of_ble_eq_true rfl)) dX6_costOf_6 ⟨(Nat.le_of_ble_eq_true rfl), (Nat.le_of_ble_eq_true rfl)⟩) hS (fun q _ h => hF q h) hF (fun r u273 t H locs ht hvm hw hB hz1 hk1 hS => ?_)
    try dsimp only at hw hB
    obtain ⟨hP1, hD1⟩ := hB
    rw [ht] at hP1
    obtain ⟨hP, hD⟩ := post_j (ws' := [(h0, .inr (8, [.int 0, .int 0, .int 2, .ref h1, .ref h2, .int 0, .int 500, .int 0, .int 0, .int 0, .ref h3]))]) (wr := []) (w1 := [(h0, .inr (8, [.int 0, .int 0, .int 2, .ref h1, .ref h2, .int 0, .int 500, .int 0, .int 0, .int 0, .ref h3]))]) hP hD hF [0] rfl [] rfl (by decide) (by decide) hk1 hP1 hD1 [0] (by decide) rfl
    have hP : va_P D vwCl [(h0, .inr (8, [.int 0, .int 0, .int 2, .ref h1, .ref h2, .int 0, .int 500, .int 0, .int 0, .int 0, .ref h3]))] H := hP
    have hD : va_D A [(h0, .inr (8, [.int 0, .int 0, .int 2, .ref h1, .ref h2, .int 0, .int 500, .int 0, .int 0, .int 0, .ref h3]))] := hD
    rw [hw]
    have hP9 := hP.sub (ws' := [(h0, .inr (8, [.int 0, .int 0, .int 2, .ref h1, .ref h2, .int 0, .int 500, .int 0, .int 0, .int 0, .ref h3]))]) [0] rfl
    have hD9 := hD.sub (ws' := [(h0, .inr (8, [.int 0, .int 0, .int 2, .ref h1, .ref h2, .int 0, .int 500, .int 0, .int 0, .int 0, .ref h3]))]) [0] (by decide) rfl
    exact W.iret (v := ((4096 + ((1024 * (62500 - (p0).toInt64)) / 31250))).toInt32) hx hb hr (fun t ht hW => ⟨⟨((4096 + ((1024 * (62500 - (p0).toInt64)) / 31250))).toInt32, [.int 0, .int 0, .int 2, .ref h1, .ref h2, .int 0, .int 500, .int 0, .int 0, .int 0, .ref h3], rfl, ⟨c23, c24, c25, c26, c27, c28, c29, rfl, rfl⟩, by rw [ht]; exact hP9, hD9⟩, hS.F ht⟩) hS.2.2 dX6_costOf_9
  · skip
    rw [hv39]
    exact absurd (iv48 _ hf1) c37
  · skip
    rw [hv49]
    exact absurd (iv48 _ hf1) c46
  · skip
    rw [hv60]
    exact absurd (iv48 _ hf1) c56
  · skip
    rw [hv72]
    exact absurd (iv48 _ hf1) c67
  · skip
    rw [hv85]
    exact absurd (iv48 _ hf1) c79
  · skip
    rw [hv99]
    exact absurd (iv48 _ hf1) c92
  · skip
    rw [hv114]
    exact absurd (iv48 _ hf1) c106
  · skip
    rw [hv130]
    exact absurd (iv48 _ hf1) c121
  · skip
    rw [hv147]
    exact absurd (iv48 _ hf1) c137
  · skip
    rw [hv165]
    exact absurd (iv48 _ hf1) c154
  · skip
    rw [hv184]
    exact absurd (iv48 _ hf1) c172
  · skip
    rw [hv204]
    exact absurd (iv48 _ hf1) c191
  · skip
    rw [hv225]
    exact absurd (iv48 _ hf1) c211
  · skip
    rw [hv247]
    exact absurd (iv48 _ hf1) c232
  · skip
    rw [hv269]
    exact absurd (iv48 _ hf1) c254
  · skip
    exact absurd (iv43 _ hf0) c271
  · skip
    exact absurd (iv42 _ hf1) c272

theorem iv49 (x : Int32) (h0 : 0 < (lg_cmp (x).toInt64 31250)) : 0 < x := by
  have e0 : (0 : Int32).toInt = 0 := by decide
  have e1 : (31250 : Int32).toInt = 31250 := by decide
  have f0 : (0 : Int64).toInt = 0 := by decide
  have f1 : (31250 : Int64).toInt = 31250 := by decide
  simp only [lg_cmp_lt0, lg_cmp_le0, lg_cmp_gt0, lg_cmp_ge0, lg_cmp_eq0] at *
  simp only [Int64.lt_iff_toInt_lt, Int64.le_iff_toInt_le, ← Int64.toInt_inj, Int32.toInt_toInt64, Int32.lt_iff_toInt_lt, Int32.le_iff_toInt_le, ← Int32.toInt_inj, e0, e1, f0, f1] at *
  omega

theorem iv50 (x : Int32) (h0 : ¬ 0 < (lg_cmp (x).toInt64 62500)) : x ≤ 62500 := by
  have e0 : (0 : Int32).toInt = 0 := by decide
  have e1 : (62500 : Int32).toInt = 62500 := by decide
  have f0 : (0 : Int64).toInt = 0 := by decide
  have f1 : (62500 : Int64).toInt = 62500 := by decide
  simp only [lg_cmp_lt0, lg_cmp_le0, lg_cmp_gt0, lg_cmp_ge0, lg_cmp_eq0] at *
  simp only [Int64.lt_iff_toInt_lt, Int64.le_iff_toInt_le, ← Int64.toInt_inj, Int32.toInt_toInt64, Int32.lt_iff_toInt_lt, Int32.le_iff_toInt_le, ← Int32.toInt_inj, e0, e1, f0, f1] at *
  omega

theorem iv51 (x : Int32) (h0 : 15625 < x) : 0 < (lg_cmp (x).toInt64 0) := by
  have e0 : (0 : Int32).toInt = 0 := by decide
  have e1 : (15625 : Int32).toInt = 15625 := by decide
  have f0 : (0 : Int64).toInt = 0 := by decide
  have f1 : (15625 : Int64).toInt = 15625 := by decide
  simp only [lg_cmp_lt0, lg_cmp_le0, lg_cmp_gt0, lg_cmp_ge0, lg_cmp_eq0] at *
  simp only [Int64.lt_iff_toInt_lt, Int64.le_iff_toInt_le, ← Int64.toInt_inj, Int32.toInt_toInt64, Int32.lt_iff_toInt_lt, Int32.le_iff_toInt_le, ← Int32.toInt_inj, e0, e1, f0, f1] at *
  omega

theorem iv52 (x : Int32) (h0 : ¬ 31250 < x) : (lg_cmp (x).toInt64 1000000) < 0 := by
  have e0 : (0 : Int32).toInt = 0 := by decide
  have e1 : (31250 : Int32).toInt = 31250 := by decide
  have e2 : (1000000 : Int32).toInt = 1000000 := by decide
  have f0 : (0 : Int64).toInt = 0 := by decide
  have f1 : (31250 : Int64).toInt = 31250 := by decide
  have f2 : (1000000 : Int64).toInt = 1000000 := by decide
  simp only [lg_cmp_lt0, lg_cmp_le0, lg_cmp_gt0, lg_cmp_ge0, lg_cmp_eq0] at *
  simp only [Int64.lt_iff_toInt_lt, Int64.le_iff_toInt_le, ← Int64.toInt_inj, Int32.toInt_toInt64, Int32.lt_iff_toInt_lt, Int32.le_iff_toInt_le, ← Int32.toInt_inj, e0, e1, e2, f0, f1, f2] at *
  omega

theorem iv53 (x : Int32) (h0 : ¬ 31250 < x) : ¬ 0 < (lg_cmp (x).toInt64 500000) := by
  have e0 : (0 : Int32).toInt = 0 := by decide
  have e1 : (31250 : Int32).toInt = 31250 := by decide
  have e2 : (500000 : Int32).toInt = 500000 := by decide
  have f0 : (0 : Int64).toInt = 0 := by decide
  have f1 : (31250 : Int64).toInt = 31250 := by decide
  have f2 : (500000 : Int64).toInt = 500000 := by decide
  simp only [lg_cmp_lt0, lg_cmp_le0, lg_cmp_gt0, lg_cmp_ge0, lg_cmp_eq0] at *
  simp only [Int64.lt_iff_toInt_lt, Int64.le_iff_toInt_le, ← Int64.toInt_inj, Int32.toInt_toInt64, Int32.lt_iff_toInt_lt, Int32.le_iff_toInt_le, ← Int32.toInt_inj, e0, e1, e2, f0, f1, f2] at *
  omega

theorem iv54 (x : Int32) (h0 : ¬ 31250 < x) : ¬ 0 < (lg_cmp (x).toInt64 250000) := by
  have e0 : (0 : Int32).toInt = 0 := by decide
  have e1 : (31250 : Int32).toInt = 31250 := by decide
  have e2 : (250000 : Int32).toInt = 250000 := by decide
  have f0 : (0 : Int64).toInt = 0 := by decide
  have f1 : (31250 : Int64).toInt = 31250 := by decide
  have f2 : (250000 : Int64).toInt = 250000 := by decide
  simp only [lg_cmp_lt0, lg_cmp_le0, lg_cmp_gt0, lg_cmp_ge0, lg_cmp_eq0] at *
  simp only [Int64.lt_iff_toInt_lt, Int64.le_iff_toInt_le, ← Int64.toInt_inj, Int32.toInt_toInt64, Int32.lt_iff_toInt_lt, Int32.le_iff_toInt_le, ← Int32.toInt_inj, e0, e1, e2, f0, f1, f2] at *
  omega

theorem iv55 (x : Int32) (h0 : ¬ 31250 < x) : ¬ 0 < (lg_cmp (x).toInt64 125000) := by
  have e0 : (0 : Int32).toInt = 0 := by decide
  have e1 : (31250 : Int32).toInt = 31250 := by decide
  have e2 : (125000 : Int32).toInt = 125000 := by decide
  have f0 : (0 : Int64).toInt = 0 := by decide
  have f1 : (31250 : Int64).toInt = 31250 := by decide
  have f2 : (125000 : Int64).toInt = 125000 := by decide
  simp only [lg_cmp_lt0, lg_cmp_le0, lg_cmp_gt0, lg_cmp_ge0, lg_cmp_eq0] at *
  simp only [Int64.lt_iff_toInt_lt, Int64.le_iff_toInt_le, ← Int64.toInt_inj, Int32.toInt_toInt64, Int32.lt_iff_toInt_lt, Int32.le_iff_toInt_le, ← Int32.toInt_inj, e0, e1, e2, f0, f1, f2] at *
  omega

theorem iv56 (x : Int32) (h0 : ¬ 31250 < x) : ¬ 0 < (lg_cmp (x).toInt64 62500) := by
  have e0 : (0 : Int32).toInt = 0 := by decide
  have e1 : (31250 : Int32).toInt = 31250 := by decide
  have e2 : (62500 : Int32).toInt = 62500 := by decide
  have f0 : (0 : Int64).toInt = 0 := by decide
  have f1 : (31250 : Int64).toInt = 31250 := by decide
  have f2 : (62500 : Int64).toInt = 62500 := by decide
  simp only [lg_cmp_lt0, lg_cmp_le0, lg_cmp_gt0, lg_cmp_ge0, lg_cmp_eq0] at *
  simp only [Int64.lt_iff_toInt_lt, Int64.le_iff_toInt_le, ← Int64.toInt_inj, Int32.toInt_toInt64, Int32.lt_iff_toInt_lt, Int32.le_iff_toInt_le, ← Int32.toInt_inj, e0, e1, e2, f0, f1, f2] at *
  omega

theorem iv57 (x : Int32) (h0 : ¬ 31250 < x) : ¬ 0 < (lg_cmp (x).toInt64 31250) := by
  have e0 : (0 : Int32).toInt = 0 := by decide
  have e1 : (31250 : Int32).toInt = 31250 := by decide
  have f0 : (0 : Int64).toInt = 0 := by decide
  have f1 : (31250 : Int64).toInt = 31250 := by decide
  simp only [lg_cmp_lt0, lg_cmp_le0, lg_cmp_gt0, lg_cmp_ge0, lg_cmp_eq0] at *
  simp only [Int64.lt_iff_toInt_lt, Int64.le_iff_toInt_le, ← Int64.toInt_inj, Int32.toInt_toInt64, Int32.lt_iff_toInt_lt, Int32.le_iff_toInt_le, ← Int32.toInt_inj, e0, e1, f0, f1] at *
  omega

theorem iv58 (x : Int32) (h0 : 15625 < x) : 0 < (lg_cmp (x).toInt64 15625) := by
  have e0 : (0 : Int32).toInt = 0 := by decide
  have e1 : (15625 : Int32).toInt = 15625 := by decide
  have f0 : (0 : Int64).toInt = 0 := by decide
  have f1 : (15625 : Int64).toInt = 15625 := by decide
  simp only [lg_cmp_lt0, lg_cmp_le0, lg_cmp_gt0, lg_cmp_ge0, lg_cmp_eq0] at *
  simp only [Int64.lt_iff_toInt_lt, Int64.le_iff_toInt_le, ← Int64.toInt_inj, Int32.toInt_toInt64, Int32.lt_iff_toInt_lt, Int32.le_iff_toInt_le, ← Int32.toInt_inj, e0, e1, f0, f1] at *
  omega

set_option maxHeartbeats 4000000 in
set_option maxRecDepth 100000 in
theorem k_X6_costOf_5 (l : Launch) (D : va_G) (κ ε : Nat → Nat) (h0 h1 h2 h3 : Nat) (sz : Nat) (p0 : Int32) (hf0 : ¬ 31250 < p0) (hf1 : 15625 < p0) : Met l yX6_costOf wsX6_costOf ({ frames := 1, cells := 0, slots := 0, locals := 26 }) (va_Pc [.ref h0, .int p0] (Pre2 D κ ε [(h0, .inr (8, [.int 0, .int 0, .int 2, .ref h1, .ref h2, .int 0, .int 500, .int 0, .int 0, .int 0, .ref h3]))] sz)) (va_Qi (fun r (u : List Value) => (0 < (lg_cmp (p0).toInt64 0)) ∧ ((lg_cmp (p0).toInt64 1000000) < 0) ∧ (¬ 0 < (lg_cmp (p0).toInt64 500000)) ∧ (¬ 0 < (lg_cmp (p0).toInt64 250000)) ∧ (¬ 0 < (lg_cmp (p0).toInt64 125000)) ∧ (¬ 0 < (lg_cmp (p0).toInt64 62500)) ∧ (¬ 0 < (lg_cmp (p0).toInt64 31250)) ∧ (0 < (lg_cmp (p0).toInt64 15625)) ∧ (u[0]? = some (.int 0)) ∧ (r = ((5120 + ((1024 * (31250 - (p0).toInt64)) / 15625))).toInt32)) (fun u t => va_P D vwCl [(h0, .inr (8, u))] t.heap ∧ va_D (va_A [(h0, .inr (8, [.int 0, .int 0, .int 2, .ref h1, .ref h2, .int 0, .int 500, .int 0, .int 0, .int 0, .ref h3]))] sz) [(h0, .inr (8, u))]) (va_A [(h0, .inr (8, [.int 0, .int 0, .int 2, .ref h1, .ref h2, .int 0, .int 500, .int 0, .int 0, .int 0, .ref h3]))] sz)) 0 0 (va_A [(h0, .inr (8, [.int 0, .int 0, .int 2, .ref h1, .ref h2, .int 0, .int 500, .int 0, .int 0, .int 0, .ref h3]))] sz) := by
  refine Met.ofW (cc := cX6_costOf) (maxL := 2) (ret := (some .int)) (by decide) rfl ?_
  intro p e s m args below meth c s₁ B hml hv
  obtain ⟨rfl, hsz, hP, hK, hD0, hE9⟩ := hv
  have hx := B.exec
  have hb := B.bytes
  have hr := B.returns
  have hts := atoms_spec (ws := wsX6_costOf) B.pre
  have hown : s.vm.findClass RX6 = some m.cls := findClass_of_methodNamed B.named
  have hlocks := B.notSynchronized
  subst hsz
  have hD := hD0.self (sz := s.heap.size)
  generalize hAe : va_A [(h0, .inr (8, [.int 0, .int 0, .int 2, .ref h1, .ref h2, .int 0, .int 500, .int 0, .int 0, .int 0, .ref h3]))] s.heap.size = A at hD hE9 ⊢
  have hE := hE9.1
  have hDc := hE9.2
  have hA : ∀ q : Nat, s.heap.size ≤ q → A q := fun q h => by rw [← hAe]; exact Or.inr h
  have hS : va_S A s.heap s.heap [] := va_S.rf
  have hP : va_P D vwCl [(h0, .inr (8, [.int 0, .int 0, .int 2, .ref h1, .ref h2, .int 0, .int 500, .int 0, .int 0, .int 0, .ref h3]))] s.heap := hP
  have hl := lv_entry [.ref h0, .int p0] (n := 2) (Nat.le_of_ble_eq_true rfl)
  rw [lg_entry_eq]
  generalize (lg_sl [.ref h0, .int p0] ++ List.replicate (2 - (lg_sl [.ref h0, .int p0]).length) Slot.unset).toArray = ls at hl ⊢
  have hl : lv_has ls 2 [(0, .ref h0), (1, .int p0)] := hl
  refine lv_aload_n hx hb dX6_costOf_0 rfl (lv_at hl 0 rfl) ?_
  refine lv_iload_n hx hb dX6_costOf_1 rfl (lv_at hl 1 rfl) ?_
  refine lv_i2l (v := (p0).toInt64) hx hb dX6_costOf_2 rfl ?_
  refine vp_callSi (W.runS (As := [.long (p0).toInt64]) (rest := [.ref h0]) ⟨hx, hb, hml, hown, hts⟩ (k_X6_cost_0 l D κ ε ((p0).toInt64)) (va_cwS 1 hts gX6_costOf_X6_cost rfl rfl rfl (by decide +kernel) ⟨(Nat.le_of_ble_eq_true rfl), (Nat.le_of_ble_eq_true rfl)⟩) (pre0_S (wc := []) hP hK [] rfl) rfl rfl hl.1 rfl (lv_room (Nat.le_of_ble_eq_true rfl)) dX6_costOf_3 ⟨(Nat.le_of_ble_eq_true rfl), (Nat.le_of_ble_eq_true rfl)⟩) (fun r hw => ?_)
  rcases hw with ⟨c1, c2, c3, hv4⟩ | ⟨c5, c6, c7, c8, hv9⟩ | ⟨c10, c11, c12, c13, c14, hv15⟩ | ⟨c16, c17, c18, c19, c20, c21, hv22⟩ | ⟨c23, c24, c25, c26, c27, c28, c29, hv30⟩ | ⟨c31, c32, c33, c34, c35, c36, c37, c38, hv39⟩ | ⟨c40, c41, c42, c43, c44, c45, c46, c47, c48, hv49⟩ | ⟨c50, c51, c52, c53, c54, c55, c56, c57, c58, c59, hv60⟩ | ⟨c61, c62, c63, c64, c65, c66, c67, c68, c69, c70, c71, hv72⟩ | ⟨c73, c74, c75, c76, c77, c78, c79, c80, c81, c82, c83, c84, hv85⟩ | ⟨c86, c87, c88, c89, c90, c91, c92, c93, c94, c95, c96, c97, c98, hv99⟩ | ⟨c100, c101, c102, c103, c104, c105, c106, c107, c108, c109, c110, c111, c112, c113, hv114⟩ | ⟨c115, c116, c117, c118, c119, c120, c121, c122, c123, c124, c125, c126, c127, c128, c129, hv130⟩ | ⟨c131, c132, c133, c134, c135, c136, c137, c138, c139, c140, c141, c142, c143, c144, c145, c146, hv147⟩ | ⟨c148, c149, c150, c151, c152, c153, c154, c155, c156, c157, c158, c159, c160, c161, c162, c163, c164, hv165⟩ | ⟨c166, c167, c168, c169, c170, c171, c172, c173, c174, c175, c176, c177, c178, c179, c180, c181, c182, c183, hv184⟩ | ⟨c185, c186, c187, c188, c189, c190, c191, c192, c193, c194, c195, c196, c197, c198, c199, c200, c201, c202, c203, hv204⟩ | ⟨c205, c206, c207, c208, c209, c210, c211, c212, c213, c214, c215, c216, c217, c218, c219, c220, c221, c222, c223, c224, hv225⟩ | ⟨c226, c227, c228, c229, c230, c231, c232, c233, c234, c235, c236, c237, c238, c239, c240, c241, c242, c243, c244, c245, c246, hv247⟩ | ⟨c248, c249, c250, c251, c252, c253, c254, c255, c256, c257, c258, c259, c260, c261, c262, c263, c264, c265, c266, c267, c268, hv269⟩ | ⟨c270, c271, rfl⟩ | ⟨c272, rfl⟩
  · skip
    rw [hv4]
    exact absurd c3 (iv53 _ hf0)
  · skip
    rw [hv9]
    exact absurd c8 (iv54 _ hf0)
  · skip
    rw [hv15]
    exact absurd c14 (iv55 _ hf0)
  · skip
    rw [hv22]
    exact absurd c21 (iv56 _ hf0)
  · skip
    rw [hv30]
    exact absurd c29 (iv57 _ hf0)
  · skip
    rw [hv39]
    have hF := va_free (wc := [(h0, .inr (8, [.int 0, .int 0, .int 2, .ref h1, .ref h2, .int 0, .int 500, .int 0, .int 0, .int 0, .ref h3]))]) hD hS hA [0] rfl
    refine va_calli (va_runV (As := [.int ((5120 + ((1024 * (31250 - (p0).toInt64)) / 15625))).toInt32]) (rest := []) ⟨hx, hb, hml, hown, hts⟩ (k_X6_plain_2 l D κ ε h0 h1 h2 h3 s.heap.size (((5120 + ((1024 * (31250 - (p0).toInt64)) / 15625))).toInt32) (0) (0) (2) (0) (500) (0) (0)) (cwV 1 hts gX6_costOf_X6_plain rfl rfl rfl (by decide +kernel) ⟨(Nat.le_of_ble_eq_true rfl), (Nat.le_of_ble_eq_true rfl)⟩) (pre2_V (q0 := 0) (ci := 8) (wc := [(h0, .inr (8, [.int 0, .int 0, .int 2, .ref h1, .ref h2, .int 0, .int 500, .int 0, .int 0, .int 0, .ref h3]))]) hP hD hK hE9 hS hA [0] (by decide) rfl rfl rfl) rfl rfl hl.1 rfl (lv_room (Nat.le_of_ble_eq_true rfl)) dX6_costOf_6 ⟨(Nat.le_of_ble_eq_true rfl), (Nat.le_of_ble_eq_true rfl)⟩) hS (fun q _ h => hF q h) hF (fun r u273 t H locs ht hvm hw hB hz1 hk1 hS => ?_)
    try dsimp only at hw hB
    obtain ⟨hP1, hD1⟩ := hB
    rw [ht] at hP1
    obtain ⟨hP, hD⟩ := post_j (ws' := [(h0, .inr (8, [.int 0, .int 0, .int 2, .ref h1, .ref h2, .int 0, .int 500, .int 0, .int 0, .int 0, .ref h3]))]) (wr := []) (w1 := [(h0, .inr (8, [.int 0, .int 0, .int 2, .ref h1, .ref h2, .int 0, .int 500, .int 0, .int 0, .int 0, .ref h3]))]) hP hD hF [0] rfl [] rfl (by decide) (by decide) hk1 hP1 hD1 [0] (by decide) rfl
    have hP : va_P D vwCl [(h0, .inr (8, [.int 0, .int 0, .int 2, .ref h1, .ref h2, .int 0, .int 500, .int 0, .int 0, .int 0, .ref h3]))] H := hP
    have hD : va_D A [(h0, .inr (8, [.int 0, .int 0, .int 2, .ref h1, .ref h2, .int 0, .int 500, .int 0, .int 0, .int 0, .ref h3]))] := hD
    rw [hw]
    have hP9 := hP.sub (ws' := [(h0, .inr (8, [.int 0, .int 0, .int 2, .ref h1, .ref h2, .int 0, .int 500, .int 0, .int 0, .int 0, .ref h3]))]) [0] rfl
    have hD9 := hD.sub (ws' := [(h0, .inr (8, [.int 0, .int 0, .int 2, .ref h1, .ref h2, .int 0, .int 500, .int 0, .int 0, .int 0, .ref h3]))]) [0] (by decide) rfl
    exact W.iret (v := ((5120 + ((1024 * (31250 - (p0).toInt64)) / 15625))).toInt32) hx hb hr (fun t ht hW => ⟨⟨((5120 + ((1024 * (31250 - (p0).toInt64)) / 15625))).toInt32, [.int 0, .int 0, .int 2, .ref h1, .ref h2, .int 0, .int 500, .int 0, .int 0, .int 0, .ref h3], rfl, ⟨c31, c32, c33, c34, c35, c36, c37, c38, rfl, rfl⟩, by rw [ht]; exact hP9, hD9⟩, hS.F ht⟩) hS.2.2 dX6_costOf_9
  · skip
    rw [hv49]
    exact absurd (iv58 _ hf1) c47
  · skip
    rw [hv60]
    exact absurd (iv58 _ hf1) c57
  · skip
    rw [hv72]
    exact absurd (iv58 _ hf1) c68
  · skip
    rw [hv85]
    exact absurd (iv58 _ hf1) c80
  · skip
    rw [hv99]
    exact absurd (iv58 _ hf1) c93
  · skip
    rw [hv114]
    exact absurd (iv58 _ hf1) c107
  · skip
    rw [hv130]
    exact absurd (iv58 _ hf1) c122
  · skip
    rw [hv147]
    exact absurd (iv58 _ hf1) c138
  · skip
    rw [hv165]
    exact absurd (iv58 _ hf1) c155
  · skip
    rw [hv184]
    exact absurd (iv58 _ hf1) c173
  · skip
    rw [hv204]
    exact absurd (iv58 _ hf1) c192
  · skip
    rw [hv225]
    exact absurd (iv58 _ hf1) c212
  · skip
    rw [hv247]
    exact absurd (iv58 _ hf1) c233
  · skip
    rw [hv269]
    exact absurd (iv58 _ hf1) c255
  · skip
    exact absurd (iv52 _ hf0) c271
  · skip
    exact absurd (iv51 _ hf1) c272

theorem iv59 (x : Int32) (h0 : 0 < (lg_cmp (x).toInt64 15625)) : 0 < x := by
  have e0 : (0 : Int32).toInt = 0 := by decide
  have e1 : (15625 : Int32).toInt = 15625 := by decide
  have f0 : (0 : Int64).toInt = 0 := by decide
  have f1 : (15625 : Int64).toInt = 15625 := by decide
  simp only [lg_cmp_lt0, lg_cmp_le0, lg_cmp_gt0, lg_cmp_ge0, lg_cmp_eq0] at *
  simp only [Int64.lt_iff_toInt_lt, Int64.le_iff_toInt_le, ← Int64.toInt_inj, Int32.toInt_toInt64, Int32.lt_iff_toInt_lt, Int32.le_iff_toInt_le, ← Int32.toInt_inj, e0, e1, f0, f1] at *
  omega

theorem iv60 (x : Int32) (h0 : ¬ 0 < (lg_cmp (x).toInt64 31250)) : x ≤ 31250 := by
  have e0 : (0 : Int32).toInt = 0 := by decide
  have e1 : (31250 : Int32).toInt = 31250 := by decide
  have f0 : (0 : Int64).toInt = 0 := by decide
  have f1 : (31250 : Int64).toInt = 31250 := by decide
  simp only [lg_cmp_lt0, lg_cmp_le0, lg_cmp_gt0, lg_cmp_ge0, lg_cmp_eq0] at *
  simp only [Int64.lt_iff_toInt_lt, Int64.le_iff_toInt_le, ← Int64.toInt_inj, Int32.toInt_toInt64, Int32.lt_iff_toInt_lt, Int32.le_iff_toInt_le, ← Int32.toInt_inj, e0, e1, f0, f1] at *
  omega

theorem iv61 (x : Int32) (h0 : 7812 < x) : 0 < (lg_cmp (x).toInt64 0) := by
  have e0 : (0 : Int32).toInt = 0 := by decide
  have e1 : (7812 : Int32).toInt = 7812 := by decide
  have f0 : (0 : Int64).toInt = 0 := by decide
  have f1 : (7812 : Int64).toInt = 7812 := by decide
  simp only [lg_cmp_lt0, lg_cmp_le0, lg_cmp_gt0, lg_cmp_ge0, lg_cmp_eq0] at *
  simp only [Int64.lt_iff_toInt_lt, Int64.le_iff_toInt_le, ← Int64.toInt_inj, Int32.toInt_toInt64, Int32.lt_iff_toInt_lt, Int32.le_iff_toInt_le, ← Int32.toInt_inj, e0, e1, f0, f1] at *
  omega

theorem iv62 (x : Int32) (h0 : ¬ 15625 < x) : (lg_cmp (x).toInt64 1000000) < 0 := by
  have e0 : (0 : Int32).toInt = 0 := by decide
  have e1 : (15625 : Int32).toInt = 15625 := by decide
  have e2 : (1000000 : Int32).toInt = 1000000 := by decide
  have f0 : (0 : Int64).toInt = 0 := by decide
  have f1 : (15625 : Int64).toInt = 15625 := by decide
  have f2 : (1000000 : Int64).toInt = 1000000 := by decide
  simp only [lg_cmp_lt0, lg_cmp_le0, lg_cmp_gt0, lg_cmp_ge0, lg_cmp_eq0] at *
  simp only [Int64.lt_iff_toInt_lt, Int64.le_iff_toInt_le, ← Int64.toInt_inj, Int32.toInt_toInt64, Int32.lt_iff_toInt_lt, Int32.le_iff_toInt_le, ← Int32.toInt_inj, e0, e1, e2, f0, f1, f2] at *
  omega

theorem iv63 (x : Int32) (h0 : ¬ 15625 < x) : ¬ 0 < (lg_cmp (x).toInt64 500000) := by
  have e0 : (0 : Int32).toInt = 0 := by decide
  have e1 : (15625 : Int32).toInt = 15625 := by decide
  have e2 : (500000 : Int32).toInt = 500000 := by decide
  have f0 : (0 : Int64).toInt = 0 := by decide
  have f1 : (15625 : Int64).toInt = 15625 := by decide
  have f2 : (500000 : Int64).toInt = 500000 := by decide
  simp only [lg_cmp_lt0, lg_cmp_le0, lg_cmp_gt0, lg_cmp_ge0, lg_cmp_eq0] at *
  simp only [Int64.lt_iff_toInt_lt, Int64.le_iff_toInt_le, ← Int64.toInt_inj, Int32.toInt_toInt64, Int32.lt_iff_toInt_lt, Int32.le_iff_toInt_le, ← Int32.toInt_inj, e0, e1, e2, f0, f1, f2] at *
  omega

theorem iv64 (x : Int32) (h0 : ¬ 15625 < x) : ¬ 0 < (lg_cmp (x).toInt64 250000) := by
  have e0 : (0 : Int32).toInt = 0 := by decide
  have e1 : (15625 : Int32).toInt = 15625 := by decide
  have e2 : (250000 : Int32).toInt = 250000 := by decide
  have f0 : (0 : Int64).toInt = 0 := by decide
  have f1 : (15625 : Int64).toInt = 15625 := by decide
  have f2 : (250000 : Int64).toInt = 250000 := by decide
  simp only [lg_cmp_lt0, lg_cmp_le0, lg_cmp_gt0, lg_cmp_ge0, lg_cmp_eq0] at *
  simp only [Int64.lt_iff_toInt_lt, Int64.le_iff_toInt_le, ← Int64.toInt_inj, Int32.toInt_toInt64, Int32.lt_iff_toInt_lt, Int32.le_iff_toInt_le, ← Int32.toInt_inj, e0, e1, e2, f0, f1, f2] at *
  omega

theorem iv65 (x : Int32) (h0 : ¬ 15625 < x) : ¬ 0 < (lg_cmp (x).toInt64 125000) := by
  have e0 : (0 : Int32).toInt = 0 := by decide
  have e1 : (15625 : Int32).toInt = 15625 := by decide
  have e2 : (125000 : Int32).toInt = 125000 := by decide
  have f0 : (0 : Int64).toInt = 0 := by decide
  have f1 : (15625 : Int64).toInt = 15625 := by decide
  have f2 : (125000 : Int64).toInt = 125000 := by decide
  simp only [lg_cmp_lt0, lg_cmp_le0, lg_cmp_gt0, lg_cmp_ge0, lg_cmp_eq0] at *
  simp only [Int64.lt_iff_toInt_lt, Int64.le_iff_toInt_le, ← Int64.toInt_inj, Int32.toInt_toInt64, Int32.lt_iff_toInt_lt, Int32.le_iff_toInt_le, ← Int32.toInt_inj, e0, e1, e2, f0, f1, f2] at *
  omega

theorem iv66 (x : Int32) (h0 : ¬ 15625 < x) : ¬ 0 < (lg_cmp (x).toInt64 62500) := by
  have e0 : (0 : Int32).toInt = 0 := by decide
  have e1 : (15625 : Int32).toInt = 15625 := by decide
  have e2 : (62500 : Int32).toInt = 62500 := by decide
  have f0 : (0 : Int64).toInt = 0 := by decide
  have f1 : (15625 : Int64).toInt = 15625 := by decide
  have f2 : (62500 : Int64).toInt = 62500 := by decide
  simp only [lg_cmp_lt0, lg_cmp_le0, lg_cmp_gt0, lg_cmp_ge0, lg_cmp_eq0] at *
  simp only [Int64.lt_iff_toInt_lt, Int64.le_iff_toInt_le, ← Int64.toInt_inj, Int32.toInt_toInt64, Int32.lt_iff_toInt_lt, Int32.le_iff_toInt_le, ← Int32.toInt_inj, e0, e1, e2, f0, f1, f2] at *
  omega

theorem iv67 (x : Int32) (h0 : ¬ 15625 < x) : ¬ 0 < (lg_cmp (x).toInt64 31250) := by
  have e0 : (0 : Int32).toInt = 0 := by decide
  have e1 : (15625 : Int32).toInt = 15625 := by decide
  have e2 : (31250 : Int32).toInt = 31250 := by decide
  have f0 : (0 : Int64).toInt = 0 := by decide
  have f1 : (15625 : Int64).toInt = 15625 := by decide
  have f2 : (31250 : Int64).toInt = 31250 := by decide
  simp only [lg_cmp_lt0, lg_cmp_le0, lg_cmp_gt0, lg_cmp_ge0, lg_cmp_eq0] at *
  simp only [Int64.lt_iff_toInt_lt, Int64.le_iff_toInt_le, ← Int64.toInt_inj, Int32.toInt_toInt64, Int32.lt_iff_toInt_lt, Int32.le_iff_toInt_le, ← Int32.toInt_inj, e0, e1, e2, f0, f1, f2] at *
  omega

theorem iv68 (x : Int32) (h0 : ¬ 15625 < x) : ¬ 0 < (lg_cmp (x).toInt64 15625) := by
  have e0 : (0 : Int32).toInt = 0 := by decide
  have e1 : (15625 : Int32).toInt = 15625 := by decide
  have f0 : (0 : Int64).toInt = 0 := by decide
  have f1 : (15625 : Int64).toInt = 15625 := by decide
  simp only [lg_cmp_lt0, lg_cmp_le0, lg_cmp_gt0, lg_cmp_ge0, lg_cmp_eq0] at *
  simp only [Int64.lt_iff_toInt_lt, Int64.le_iff_toInt_le, ← Int64.toInt_inj, Int32.toInt_toInt64, Int32.lt_iff_toInt_lt, Int32.le_iff_toInt_le, ← Int32.toInt_inj, e0, e1, f0, f1] at *
  omega

theorem iv69 (x : Int32) (h0 : 7812 < x) : 0 < (lg_cmp (x).toInt64 7812) := by
  have e0 : (0 : Int32).toInt = 0 := by decide
  have e1 : (7812 : Int32).toInt = 7812 := by decide
  have f0 : (0 : Int64).toInt = 0 := by decide
  have f1 : (7812 : Int64).toInt = 7812 := by decide
  simp only [lg_cmp_lt0, lg_cmp_le0, lg_cmp_gt0, lg_cmp_ge0, lg_cmp_eq0] at *
  simp only [Int64.lt_iff_toInt_lt, Int64.le_iff_toInt_le, ← Int64.toInt_inj, Int32.toInt_toInt64, Int32.lt_iff_toInt_lt, Int32.le_iff_toInt_le, ← Int32.toInt_inj, e0, e1, f0, f1] at *
  omega

set_option maxHeartbeats 4000000 in
set_option maxRecDepth 100000 in
theorem k_X6_costOf_6 (l : Launch) (D : va_G) (κ ε : Nat → Nat) (h0 h1 h2 h3 : Nat) (sz : Nat) (p0 : Int32) (hf0 : ¬ 15625 < p0) (hf1 : 7812 < p0) : Met l yX6_costOf wsX6_costOf ({ frames := 1, cells := 0, slots := 0, locals := 26 }) (va_Pc [.ref h0, .int p0] (Pre2 D κ ε [(h0, .inr (8, [.int 0, .int 0, .int 2, .ref h1, .ref h2, .int 0, .int 500, .int 0, .int 0, .int 0, .ref h3]))] sz)) (va_Qi (fun r (u : List Value) => (0 < (lg_cmp (p0).toInt64 0)) ∧ ((lg_cmp (p0).toInt64 1000000) < 0) ∧ (¬ 0 < (lg_cmp (p0).toInt64 500000)) ∧ (¬ 0 < (lg_cmp (p0).toInt64 250000)) ∧ (¬ 0 < (lg_cmp (p0).toInt64 125000)) ∧ (¬ 0 < (lg_cmp (p0).toInt64 62500)) ∧ (¬ 0 < (lg_cmp (p0).toInt64 31250)) ∧ (¬ 0 < (lg_cmp (p0).toInt64 15625)) ∧ (0 < (lg_cmp (p0).toInt64 7812)) ∧ (u[0]? = some (.int 0)) ∧ (r = ((6144 + ((1024 * (15625 - (p0).toInt64)) / 7813))).toInt32)) (fun u t => va_P D vwCl [(h0, .inr (8, u))] t.heap ∧ va_D (va_A [(h0, .inr (8, [.int 0, .int 0, .int 2, .ref h1, .ref h2, .int 0, .int 500, .int 0, .int 0, .int 0, .ref h3]))] sz) [(h0, .inr (8, u))]) (va_A [(h0, .inr (8, [.int 0, .int 0, .int 2, .ref h1, .ref h2, .int 0, .int 500, .int 0, .int 0, .int 0, .ref h3]))] sz)) 0 0 (va_A [(h0, .inr (8, [.int 0, .int 0, .int 2, .ref h1, .ref h2, .int 0, .int 500, .int 0, .int 0, .int 0, .ref h3]))] sz) := by
  refine Met.ofW (cc := cX6_costOf) (maxL := 2) (ret := (some .int)) (by decide) rfl ?_
  intro p e s m args below meth c s₁ B hml hv
  obtain ⟨rfl, hsz, hP, hK, hD0, hE9⟩ := hv
  have hx := B.exec
  have hb := B.bytes
  have hr := B.returns
  have hts := atoms_spec (ws := wsX6_costOf) B.pre
  have hown : s.vm.findClass RX6 = some m.cls := findClass_of_methodNamed B.named
  have hlocks := B.notSynchronized
  subst hsz
  have hD := hD0.self (sz := s.heap.size)
  generalize hAe : va_A [(h0, .inr (8, [.int 0, .int 0, .int 2, .ref h1, .ref h2, .int 0, .int 500, .int 0, .int 0, .int 0, .ref h3]))] s.heap.size = A at hD hE9 ⊢
  have hE := hE9.1
  have hDc := hE9.2
  have hA : ∀ q : Nat, s.heap.size ≤ q → A q := fun q h => by rw [← hAe]; exact Or.inr h
  have hS : va_S A s.heap s.heap [] := va_S.rf
  have hP : va_P D vwCl [(h0, .inr (8, [.int 0, .int 0, .int 2, .ref h1, .ref h2, .int 0, .int 500, .int 0, .int 0, .int 0, .ref h3]))] s.heap := hP
  have hl := lv_entry [.ref h0, .int p0] (n := 2) (Nat.le_of_ble_eq_true rfl)
  rw [lg_entry_eq]
  generalize (lg_sl [.ref h0, .int p0] ++ List.replicate (2 - (lg_sl [.ref h0, .int p0]).length) Slot.unset).toArray = ls at hl ⊢
  have hl : lv_has ls 2 [(0, .ref h0), (1, .int p0)] := hl
  refine lv_aload_n hx hb dX6_costOf_0 rfl (lv_at hl 0 rfl) ?_
  refine lv_iload_n hx hb dX6_costOf_1 rfl (lv_at hl 1 rfl) ?_
  refine lv_i2l (v := (p0).toInt64) hx hb dX6_costOf_2 rfl ?_
  refine vp_callSi (W.runS (As := [.long (p0).toInt64]) (rest := [.ref h0]) ⟨hx, hb, hml, hown, hts⟩ (k_X6_cost_0 l D κ ε ((p0).toInt64)) (va_cwS 1 hts gX6_costOf_X6_cost rfl rfl rfl (by decide +kernel) ⟨(Nat.le_of_ble_eq_true rfl), (Nat.le_of_ble_eq_true rfl)⟩) (pre0_S (wc := []) hP hK [] rfl) rfl rfl hl.1 rfl (lv_room (Nat.le_of_ble_eq_true rfl)) dX6_costOf_3 ⟨(Nat.le_of_ble_eq_true rfl), (Nat.le_of_ble_eq_true rfl)⟩) (fun r hw => ?_)
  rcases hw with ⟨c1, c2, c3, hv4⟩ | ⟨c5, c6, c7, c8, hv9⟩ | ⟨c10, c11, c12, c13, c14, hv15⟩ | ⟨c16, c17, c18, c19, c20, c21, hv22⟩ | ⟨c23, c24, c25, c26, c27, c28, c29, hv30⟩ | ⟨c31, c32, c33, c34, c35, c36, c37, c38, hv39⟩ | ⟨c40, c41, c42, c43, c44, c45, c46, c47, c48, hv49⟩ | ⟨c50, c51, c52, c53, c54, c55, c56, c57, c58, c59, hv60⟩ | ⟨c61, c62, c63, c64, c65, c66, c67, c68, c69, c70, c71, hv72⟩ | ⟨c73, c74, c75, c76, c77, c78, c79, c80, c81, c82, c83, c84, hv85⟩ | ⟨c86, c87, c88, c89, c90, c91, c92, c93, c94, c95, c96, c97, c98, hv99⟩ | ⟨c100, c101, c102, c103, c104, c105, c106, c107, c108, c109, c110, c111, c112, c113, hv114⟩ | ⟨c115, c116, c117, c118, c119, c120, c121, c122, c123, c124, c125, c126, c127, c128, c129, hv130⟩ | ⟨c131, c132, c133, c134, c135, c136, c137, c138, c139, c140, c141, c142, c143, c144, c145, c146, hv147⟩ | ⟨c148, c149, c150, c151, c152, c153, c154, c155, c156, c157, c158, c159, c160, c161, c162, c163, c164, hv165⟩ | ⟨c166, c167, c168, c169, c170, c171, c172, c173, c174, c175, c176, c177, c178, c179, c180, c181, c182, c183, hv184⟩ | ⟨c185, c186, c187, c188, c189, c190, c191, c192, c193, c194, c195, c196, c197, c198, c199, c200, c201, c202, c203, hv204⟩ | ⟨c205, c206, c207, c208, c209, c210, c211, c212, c213, c214, c215, c216, c217, c218, c219, c220, c221, c222, c223, c224, hv225⟩ | ⟨c226, c227, c228, c229, c230, c231, c232, c233, c234, c235, c236, c237, c238, c239, c240, c241, c242, c243, c244, c245, c246, hv247⟩ | ⟨c248, c249, c250, c251, c252, c253, c254, c255, c256, c257, c258, c259, c260, c261, c262, c263, c264, c265, c266, c267, c268, hv269⟩ | ⟨c270, c271, rfl⟩ | ⟨c272, rfl⟩
  · skip
    rw [hv4]
    exact absurd c3 (iv63 _ hf0)
  · skip
    rw [hv9]
    exact absurd c8 (iv64 _ hf0)
  · skip
    rw [hv15]
    exact absurd c14 (iv65 _ hf0)
  · skip
    rw [hv22]
    exact absurd c21 (iv66 _ hf0)
  · skip
    rw [hv30]
    exact absurd c29 (iv67 _ hf0)
  · skip
    rw [hv39]
    exact absurd c38 (iv68 _ hf0)
  · skip
    rw [hv49]
    have hF := va_free (wc := [(h0, .inr (8, [.int 0, .int 0, .int 2, .ref h1, .ref h2, .int 0, .int 500, .int 0, .int 0, .int 0, .ref h3]))]) hD hS hA [0] rfl
    refine va_calli (va_runV (As := [.int ((6144 + ((1024 * (15625 - (p0).toInt64)) / 7813))).toInt32]) (rest := []) ⟨hx, hb, hml, hown, hts⟩ (k_X6_plain_2 l D κ ε h0 h1 h2 h3 s.heap.size (((6144 + ((1024 * (15625 - (p0).toInt64)) / 7813))).toInt32) (0) (0) (2) (0) (500) (0) (0)) (cwV 1 hts gX6_costOf_X6_plain rfl rfl rfl (by decide +kernel) ⟨(Nat.le_of_ble_eq_true rfl), (Nat.le_of_ble_eq_true rfl)⟩) (pre2_V (q0 := 0) (ci := 8) (wc := [(h0, .inr (8, [.int 0, .int 0, .int 2, .ref h1, .ref h2, .int 0, .int 500, .int 0, .int 0, .int 0, .ref h3]))]) hP hD hK hE9 hS hA [0] (by decide) rfl rfl rfl) rfl rfl hl.1 rfl (lv_room (Nat.le_of_ble_eq_true rfl)) dX6_costOf_6 ⟨(Nat.le_of_ble_eq_true rfl), (Nat.le_of_ble_eq_true rfl)⟩) hS (fun q _ h => hF q h) hF (fun r u273 t H locs ht hvm hw hB hz1 hk1 hS => ?_)
    try dsimp only at hw hB
    obtain ⟨hP1, hD1⟩ := hB
    rw [ht] at hP1
    obtain ⟨hP, hD⟩ := post_j (ws' := [(h0, .inr (8, [.int 0, .int 0, .int 2, .ref h1, .ref h2, .int 0, .int 500, .int 0, .int 0, .int 0, .ref h3]))]) (wr := []) (w1 := [(h0, .inr (8, [.int 0, .int 0, .int 2, .ref h1, .ref h2, .int 0, .int 500, .int 0, .int 0, .int 0, .ref h3]))]) hP hD hF [0] rfl [] rfl (by decide) (by decide) hk1 hP1 hD1 [0] (by decide) rfl
    have hP : va_P D vwCl [(h0, .inr (8, [.int 0, .int 0, .int 2, .ref h1, .ref h2, .int 0, .int 500, .int 0, .int 0, .int 0, .ref h3]))] H := hP
    have hD : va_D A [(h0, .inr (8, [.int 0, .int 0, .int 2, .ref h1, .ref h2, .int 0, .int 500, .int 0, .int 0, .int 0, .ref h3]))] := hD
    rw [hw]
    have hP9 := hP.sub (ws' := [(h0, .inr (8, [.int 0, .int 0, .int 2, .ref h1, .ref h2, .int 0, .int 500, .int 0, .int 0, .int 0, .ref h3]))]) [0] rfl
    have hD9 := hD.sub (ws' := [(h0, .inr (8, [.int 0, .int 0, .int 2, .ref h1, .ref h2, .int 0, .int 500, .int 0, .int 0, .int 0, .ref h3]))]) [0] (by decide) rfl
    exact W.iret (v := ((6144 + ((1024 * (15625 - (p0).toInt64)) / 7813))).toInt32) hx hb hr (fun t ht hW => ⟨⟨((6144 + ((1024 * (15625 - (p0).toInt64)) / 7813))).toInt32, [.int 0, .int 0, .int 2, .ref h1, .ref h2, .int 0, .int 500, .int 0, .int 0, .int 0, .ref h3], rfl, ⟨c40, c41, c42, c43, c44, c45, c46, c47, c48, rfl, rfl⟩, by rw [ht]; exact hP9, hD9⟩, hS.F ht⟩) hS.2.2 dX6_costOf_9
  · skip
    rw [hv60]
    exact absurd (iv69 _ hf1) c58
  · skip
    rw [hv72]
    exact absurd (iv69 _ hf1) c69
  · skip
    rw [hv85]
    exact absurd (iv69 _ hf1) c81
  · skip
    rw [hv99]
    exact absurd (iv69 _ hf1) c94
  · skip
    rw [hv114]
    exact absurd (iv69 _ hf1) c108
  · skip
    rw [hv130]
    exact absurd (iv69 _ hf1) c123
  · skip
    rw [hv147]
    exact absurd (iv69 _ hf1) c139
  · skip
    rw [hv165]
    exact absurd (iv69 _ hf1) c156
  · skip
    rw [hv184]
    exact absurd (iv69 _ hf1) c174
  · skip
    rw [hv204]
    exact absurd (iv69 _ hf1) c193
  · skip
    rw [hv225]
    exact absurd (iv69 _ hf1) c213
  · skip
    rw [hv247]
    exact absurd (iv69 _ hf1) c234
  · skip
    rw [hv269]
    exact absurd (iv69 _ hf1) c256
  · skip
    exact absurd (iv62 _ hf0) c271
  · skip
    exact absurd (iv61 _ hf1) c272

theorem iv70 (x : Int32) (h0 : 0 < (lg_cmp (x).toInt64 7812)) : 0 < x := by
  have e0 : (0 : Int32).toInt = 0 := by decide
  have e1 : (7812 : Int32).toInt = 7812 := by decide
  have f0 : (0 : Int64).toInt = 0 := by decide
  have f1 : (7812 : Int64).toInt = 7812 := by decide
  simp only [lg_cmp_lt0, lg_cmp_le0, lg_cmp_gt0, lg_cmp_ge0, lg_cmp_eq0] at *
  simp only [Int64.lt_iff_toInt_lt, Int64.le_iff_toInt_le, ← Int64.toInt_inj, Int32.toInt_toInt64, Int32.lt_iff_toInt_lt, Int32.le_iff_toInt_le, ← Int32.toInt_inj, e0, e1, f0, f1] at *
  omega

theorem iv71 (x : Int32) (h0 : ¬ 0 < (lg_cmp (x).toInt64 15625)) : x ≤ 15625 := by
  have e0 : (0 : Int32).toInt = 0 := by decide
  have e1 : (15625 : Int32).toInt = 15625 := by decide
  have f0 : (0 : Int64).toInt = 0 := by decide
  have f1 : (15625 : Int64).toInt = 15625 := by decide
  simp only [lg_cmp_lt0, lg_cmp_le0, lg_cmp_gt0, lg_cmp_ge0, lg_cmp_eq0] at *
  simp only [Int64.lt_iff_toInt_lt, Int64.le_iff_toInt_le, ← Int64.toInt_inj, Int32.toInt_toInt64, Int32.lt_iff_toInt_lt, Int32.le_iff_toInt_le, ← Int32.toInt_inj, e0, e1, f0, f1] at *
  omega

theorem iv72 (x : Int32) (h0 : 3906 < x) : 0 < (lg_cmp (x).toInt64 0) := by
  have e0 : (0 : Int32).toInt = 0 := by decide
  have e1 : (3906 : Int32).toInt = 3906 := by decide
  have f0 : (0 : Int64).toInt = 0 := by decide
  have f1 : (3906 : Int64).toInt = 3906 := by decide
  simp only [lg_cmp_lt0, lg_cmp_le0, lg_cmp_gt0, lg_cmp_ge0, lg_cmp_eq0] at *
  simp only [Int64.lt_iff_toInt_lt, Int64.le_iff_toInt_le, ← Int64.toInt_inj, Int32.toInt_toInt64, Int32.lt_iff_toInt_lt, Int32.le_iff_toInt_le, ← Int32.toInt_inj, e0, e1, f0, f1] at *
  omega

theorem iv73 (x : Int32) (h0 : ¬ 7812 < x) : (lg_cmp (x).toInt64 1000000) < 0 := by
  have e0 : (0 : Int32).toInt = 0 := by decide
  have e1 : (7812 : Int32).toInt = 7812 := by decide
  have e2 : (1000000 : Int32).toInt = 1000000 := by decide
  have f0 : (0 : Int64).toInt = 0 := by decide
  have f1 : (7812 : Int64).toInt = 7812 := by decide
  have f2 : (1000000 : Int64).toInt = 1000000 := by decide
  simp only [lg_cmp_lt0, lg_cmp_le0, lg_cmp_gt0, lg_cmp_ge0, lg_cmp_eq0] at *
  simp only [Int64.lt_iff_toInt_lt, Int64.le_iff_toInt_le, ← Int64.toInt_inj, Int32.toInt_toInt64, Int32.lt_iff_toInt_lt, Int32.le_iff_toInt_le, ← Int32.toInt_inj, e0, e1, e2, f0, f1, f2] at *
  omega

theorem iv74 (x : Int32) (h0 : ¬ 7812 < x) : ¬ 0 < (lg_cmp (x).toInt64 500000) := by
  have e0 : (0 : Int32).toInt = 0 := by decide
  have e1 : (7812 : Int32).toInt = 7812 := by decide
  have e2 : (500000 : Int32).toInt = 500000 := by decide
  have f0 : (0 : Int64).toInt = 0 := by decide
  have f1 : (7812 : Int64).toInt = 7812 := by decide
  have f2 : (500000 : Int64).toInt = 500000 := by decide
  simp only [lg_cmp_lt0, lg_cmp_le0, lg_cmp_gt0, lg_cmp_ge0, lg_cmp_eq0] at *
  simp only [Int64.lt_iff_toInt_lt, Int64.le_iff_toInt_le, ← Int64.toInt_inj, Int32.toInt_toInt64, Int32.lt_iff_toInt_lt, Int32.le_iff_toInt_le, ← Int32.toInt_inj, e0, e1, e2, f0, f1, f2] at *
  omega

theorem iv75 (x : Int32) (h0 : ¬ 7812 < x) : ¬ 0 < (lg_cmp (x).toInt64 250000) := by
  have e0 : (0 : Int32).toInt = 0 := by decide
  have e1 : (7812 : Int32).toInt = 7812 := by decide
  have e2 : (250000 : Int32).toInt = 250000 := by decide
  have f0 : (0 : Int64).toInt = 0 := by decide
  have f1 : (7812 : Int64).toInt = 7812 := by decide
  have f2 : (250000 : Int64).toInt = 250000 := by decide
  simp only [lg_cmp_lt0, lg_cmp_le0, lg_cmp_gt0, lg_cmp_ge0, lg_cmp_eq0] at *
  simp only [Int64.lt_iff_toInt_lt, Int64.le_iff_toInt_le, ← Int64.toInt_inj, Int32.toInt_toInt64, Int32.lt_iff_toInt_lt, Int32.le_iff_toInt_le, ← Int32.toInt_inj, e0, e1, e2, f0, f1, f2] at *
  omega

theorem iv76 (x : Int32) (h0 : ¬ 7812 < x) : ¬ 0 < (lg_cmp (x).toInt64 125000) := by
  have e0 : (0 : Int32).toInt = 0 := by decide
  have e1 : (7812 : Int32).toInt = 7812 := by decide
  have e2 : (125000 : Int32).toInt = 125000 := by decide
  have f0 : (0 : Int64).toInt = 0 := by decide
  have f1 : (7812 : Int64).toInt = 7812 := by decide
  have f2 : (125000 : Int64).toInt = 125000 := by decide
  simp only [lg_cmp_lt0, lg_cmp_le0, lg_cmp_gt0, lg_cmp_ge0, lg_cmp_eq0] at *
  simp only [Int64.lt_iff_toInt_lt, Int64.le_iff_toInt_le, ← Int64.toInt_inj, Int32.toInt_toInt64, Int32.lt_iff_toInt_lt, Int32.le_iff_toInt_le, ← Int32.toInt_inj, e0, e1, e2, f0, f1, f2] at *
  omega

theorem iv77 (x : Int32) (h0 : ¬ 7812 < x) : ¬ 0 < (lg_cmp (x).toInt64 62500) := by
  have e0 : (0 : Int32).toInt = 0 := by decide
  have e1 : (7812 : Int32).toInt = 7812 := by decide
  have e2 : (62500 : Int32).toInt = 62500 := by decide
  have f0 : (0 : Int64).toInt = 0 := by decide
  have f1 : (7812 : Int64).toInt = 7812 := by decide
  have f2 : (62500 : Int64).toInt = 62500 := by decide
  simp only [lg_cmp_lt0, lg_cmp_le0, lg_cmp_gt0, lg_cmp_ge0, lg_cmp_eq0] at *
  simp only [Int64.lt_iff_toInt_lt, Int64.le_iff_toInt_le, ← Int64.toInt_inj, Int32.toInt_toInt64, Int32.lt_iff_toInt_lt, Int32.le_iff_toInt_le, ← Int32.toInt_inj, e0, e1, e2, f0, f1, f2] at *
  omega

theorem iv78 (x : Int32) (h0 : ¬ 7812 < x) : ¬ 0 < (lg_cmp (x).toInt64 31250) := by
  have e0 : (0 : Int32).toInt = 0 := by decide
  have e1 : (7812 : Int32).toInt = 7812 := by decide
  have e2 : (31250 : Int32).toInt = 31250 := by decide
  have f0 : (0 : Int64).toInt = 0 := by decide
  have f1 : (7812 : Int64).toInt = 7812 := by decide
  have f2 : (31250 : Int64).toInt = 31250 := by decide
  simp only [lg_cmp_lt0, lg_cmp_le0, lg_cmp_gt0, lg_cmp_ge0, lg_cmp_eq0] at *
  simp only [Int64.lt_iff_toInt_lt, Int64.le_iff_toInt_le, ← Int64.toInt_inj, Int32.toInt_toInt64, Int32.lt_iff_toInt_lt, Int32.le_iff_toInt_le, ← Int32.toInt_inj, e0, e1, e2, f0, f1, f2] at *
  omega

theorem iv79 (x : Int32) (h0 : ¬ 7812 < x) : ¬ 0 < (lg_cmp (x).toInt64 15625) := by
  have e0 : (0 : Int32).toInt = 0 := by decide
  have e1 : (7812 : Int32).toInt = 7812 := by decide
  have e2 : (15625 : Int32).toInt = 15625 := by decide
  have f0 : (0 : Int64).toInt = 0 := by decide
  have f1 : (7812 : Int64).toInt = 7812 := by decide
  have f2 : (15625 : Int64).toInt = 15625 := by decide
  simp only [lg_cmp_lt0, lg_cmp_le0, lg_cmp_gt0, lg_cmp_ge0, lg_cmp_eq0] at *
  simp only [Int64.lt_iff_toInt_lt, Int64.le_iff_toInt_le, ← Int64.toInt_inj, Int32.toInt_toInt64, Int32.lt_iff_toInt_lt, Int32.le_iff_toInt_le, ← Int32.toInt_inj, e0, e1, e2, f0, f1, f2] at *
  omega

theorem iv80 (x : Int32) (h0 : ¬ 7812 < x) : ¬ 0 < (lg_cmp (x).toInt64 7812) := by
  have e0 : (0 : Int32).toInt = 0 := by decide
  have e1 : (7812 : Int32).toInt = 7812 := by decide
  have f0 : (0 : Int64).toInt = 0 := by decide
  have f1 : (7812 : Int64).toInt = 7812 := by decide
  simp only [lg_cmp_lt0, lg_cmp_le0, lg_cmp_gt0, lg_cmp_ge0, lg_cmp_eq0] at *
  simp only [Int64.lt_iff_toInt_lt, Int64.le_iff_toInt_le, ← Int64.toInt_inj, Int32.toInt_toInt64, Int32.lt_iff_toInt_lt, Int32.le_iff_toInt_le, ← Int32.toInt_inj, e0, e1, f0, f1] at *
  omega

theorem iv81 (x : Int32) (h0 : 3906 < x) : 0 < (lg_cmp (x).toInt64 3906) := by
  have e0 : (0 : Int32).toInt = 0 := by decide
  have e1 : (3906 : Int32).toInt = 3906 := by decide
  have f0 : (0 : Int64).toInt = 0 := by decide
  have f1 : (3906 : Int64).toInt = 3906 := by decide
  simp only [lg_cmp_lt0, lg_cmp_le0, lg_cmp_gt0, lg_cmp_ge0, lg_cmp_eq0] at *
  simp only [Int64.lt_iff_toInt_lt, Int64.le_iff_toInt_le, ← Int64.toInt_inj, Int32.toInt_toInt64, Int32.lt_iff_toInt_lt, Int32.le_iff_toInt_le, ← Int32.toInt_inj, e0, e1, f0, f1] at *
  omega

set_option maxHeartbeats 4000000 in
set_option maxRecDepth 100000 in
theorem k_X6_costOf_7 (l : Launch) (D : va_G) (κ ε : Nat → Nat) (h0 h1 h2 h3 : Nat) (sz : Nat) (p0 : Int32) (hf0 : ¬ 7812 < p0) (hf1 : 3906 < p0) : Met l yX6_costOf wsX6_costOf ({ frames := 1, cells := 0, slots := 0, locals := 26 }) (va_Pc [.ref h0, .int p0] (Pre2 D κ ε [(h0, .inr (8, [.int 0, .int 0, .int 2, .ref h1, .ref h2, .int 0, .int 500, .int 0, .int 0, .int 0, .ref h3]))] sz)) (va_Qi (fun r (u : List Value) => (0 < (lg_cmp (p0).toInt64 0)) ∧ ((lg_cmp (p0).toInt64 1000000) < 0) ∧ (¬ 0 < (lg_cmp (p0).toInt64 500000)) ∧ (¬ 0 < (lg_cmp (p0).toInt64 250000)) ∧ (¬ 0 < (lg_cmp (p0).toInt64 125000)) ∧ (¬ 0 < (lg_cmp (p0).toInt64 62500)) ∧ (¬ 0 < (lg_cmp (p0).toInt64 31250)) ∧ (¬ 0 < (lg_cmp (p0).toInt64 15625)) ∧ (¬ 0 < (lg_cmp (p0).toInt64 7812)) ∧ (0 < (lg_cmp (p0).toInt64 3906)) ∧ (u[0]? = some (.int 0)) ∧ (r = ((7168 + ((1024 * (7812 - (p0).toInt64)) / 3906))).toInt32)) (fun u t => va_P D vwCl [(h0, .inr (8, u))] t.heap ∧ va_D (va_A [(h0, .inr (8, [.int 0, .int 0, .int 2, .ref h1, .ref h2, .int 0, .int 500, .int 0, .int 0, .int 0, .ref h3]))] sz) [(h0, .inr (8, u))]) (va_A [(h0, .inr (8, [.int 0, .int 0, .int 2, .ref h1, .ref h2, .int 0, .int 500, .int 0, .int 0, .int 0, .ref h3]))] sz)) 0 0 (va_A [(h0, .inr (8, [.int 0, .int 0, .int 2, .ref h1, .ref h2, .int 0, .int 500, .int 0, .int 0, .int 0, .ref h3]))] sz) := by
  refine Met.ofW (cc := cX6_costOf) (maxL := 2) (ret := (some .int)) (by decide) rfl ?_
  intro p e s m args below meth c s₁ B hml hv
  obtain ⟨rfl, hsz, hP, hK, hD0, hE9⟩ := hv
  have hx := B.exec
  have hb := B.bytes
  have hr := B.returns
  have hts := atoms_spec (ws := wsX6_costOf) B.pre
  have hown : s.vm.findClass RX6 = some m.cls := findClass_of_methodNamed B.named
  have hlocks := B.notSynchronized
  subst hsz
  have hD := hD0.self (sz := s.heap.size)
  generalize hAe : va_A [(h0, .inr (8, [.int 0, .int 0, .int 2, .ref h1, .ref h2, .int 0, .int 500, .int 0, .int 0, .int 0, .ref h3]))] s.heap.size = A at hD hE9 ⊢
  have hE := hE9.1
  have hDc := hE9.2
  have hA : ∀ q : Nat, s.heap.size ≤ q → A q := fun q h => by rw [← hAe]; exact Or.inr h
  have hS : va_S A s.heap s.heap [] := va_S.rf
  have hP : va_P D vwCl [(h0, .inr (8, [.int 0, .int 0, .int 2, .ref h1, .ref h2, .int 0, .int 500, .int 0, .int 0, .int 0, .ref h3]))] s.heap := hP
  have hl := lv_entry [.ref h0, .int p0] (n := 2) (Nat.le_of_ble_eq_true rfl)
  rw [lg_entry_eq]
  generalize (lg_sl [.ref h0, .int p0] ++ List.replicate (2 - (lg_sl [.ref h0, .int p0]).length) Slot.unset).toArray = ls at hl ⊢
  have hl : lv_has ls 2 [(0, .ref h0), (1, .int p0)] := hl
  refine lv_aload_n hx hb dX6_costOf_0 rfl (lv_at hl 0 rfl) ?_
  refine lv_iload_n hx hb dX6_costOf_1 rfl (lv_at hl 1 rfl) ?_
  refine lv_i2l (v := (p0).toInt64) hx hb dX6_costOf_2 rfl ?_
  refine vp_callSi (W.runS (As := [.long (p0).toInt64]) (rest := [.ref h0]) ⟨hx, hb, hml, hown, hts⟩ (k_X6_cost_0 l D κ ε ((p0).toInt64)) (va_cwS 1 hts gX6_costOf_X6_cost rfl rfl rfl (by decide +kernel) ⟨(Nat.le_of_ble_eq_true rfl), (Nat.le_of_ble_eq_true rfl)⟩) (pre0_S (wc := []) hP hK [] rfl) rfl rfl hl.1 rfl (lv_room (Nat.le_of_ble_eq_true rfl)) dX6_costOf_3 ⟨(Nat.le_of_ble_eq_true rfl), (Nat.le_of_ble_eq_true rfl)⟩) (fun r hw => ?_)
  rcases hw with ⟨c1, c2, c3, hv4⟩ | ⟨c5, c6, c7, c8, hv9⟩ | ⟨c10, c11, c12, c13, c14, hv15⟩ | ⟨c16, c17, c18, c19, c20, c21, hv22⟩ | ⟨c23, c24, c25, c26, c27, c28, c29, hv30⟩ | ⟨c31, c32, c33, c34, c35, c36, c37, c38, hv39⟩ | ⟨c40, c41, c42, c43, c44, c45, c46, c47, c48, hv49⟩ | ⟨c50, c51, c52, c53, c54, c55, c56, c57, c58, c59, hv60⟩ | ⟨c61, c62, c63, c64, c65, c66, c67, c68, c69, c70, c71, hv72⟩ | ⟨c73, c74, c75, c76, c77, c78, c79, c80, c81, c82, c83, c84, hv85⟩ | ⟨c86, c87, c88, c89, c90, c91, c92, c93, c94, c95, c96, c97, c98, hv99⟩ | ⟨c100, c101, c102, c103, c104, c105, c106, c107, c108, c109, c110, c111, c112, c113, hv114⟩ | ⟨c115, c116, c117, c118, c119, c120, c121, c122, c123, c124, c125, c126, c127, c128, c129, hv130⟩ | ⟨c131, c132, c133, c134, c135, c136, c137, c138, c139, c140, c141, c142, c143, c144, c145, c146, hv147⟩ | ⟨c148, c149, c150, c151, c152, c153, c154, c155, c156, c157, c158, c159, c160, c161, c162, c163, c164, hv165⟩ | ⟨c166, c167, c168, c169, c170, c171, c172, c173, c174, c175, c176, c177, c178, c179, c180, c181, c182, c183, hv184⟩ | ⟨c185, c186, c187, c188, c189, c190, c191, c192, c193, c194, c195, c196, c197, c198, c199, c200, c201, c202, c203, hv204⟩ | ⟨c205, c206, c207, c208, c209, c210, c211, c212, c213, c214, c215, c216, c217, c218, c219, c220, c221, c222, c223, c224, hv225⟩ | ⟨c226, c227, c228, c229, c230, c231, c232, c233, c234, c235, c236, c237, c238, c239, c240, c241, c242, c243, c244, c245, c246, hv247⟩ | ⟨c248, c249, c250, c251, c252, c253, c254, c255, c256, c257, c258, c259, c260, c261, c262, c263, c264, c265, c266, c267, c268, hv269⟩ | ⟨c270, c271, rfl⟩ | ⟨c272, rfl⟩
  · skip
    rw [hv4]
    exact absurd c3 (iv74 _ hf0)
  · skip
    rw [hv9]
    exact absurd c8 (iv75 _ hf0)
  · skip
    rw [hv15]
    exact absurd c14 (iv76 _ hf0)
  · skip
    rw [hv22]
    exact absurd c21 (iv77 _ hf0)
  · skip
    rw [hv30]
    exact absurd c29 (iv78 _ hf0)
  · skip
    rw [hv39]
    exact absurd c38 (iv79 _ hf0)
  · skip
    rw [hv49]
    exact absurd c48 (iv80 _ hf0)
  · skip
    rw [hv60]
    have hF := va_free (wc := [(h0, .inr (8, [.int 0, .int 0, .int 2, .ref h1, .ref h2, .int 0, .int 500, .int 0, .int 0, .int 0, .ref h3]))]) hD hS hA [0] rfl
    refine va_calli (va_runV (As := [.int ((7168 + ((1024 * (7812 - (p0).toInt64)) / 3906))).toInt32]) (rest := []) ⟨hx, hb, hml, hown, hts⟩ (k_X6_plain_2 l D κ ε h0 h1 h2 h3 s.heap.size (((7168 + ((1024 * (7812 - (p0).toInt64)) / 3906))).toInt32) (0) (0) (2) (0) (500) (0) (0)) (cwV 1 hts gX6_costOf_X6_plain rfl rfl rfl (by decide +kernel) ⟨(Nat.le_of_ble_eq_true rfl), (Nat.le_of_ble_eq_true rfl)⟩) (pre2_V (q0 := 0) (ci := 8) (wc := [(h0, .inr (8, [.int 0, .int 0, .int 2, .ref h1, .ref h2, .int 0, .int 500, .int 0, .int 0, .int 0, .ref h3]))]) hP hD hK hE9 hS hA [0] (by decide) rfl rfl rfl) rfl rfl hl.1 rfl (lv_room (Nat.le_of_ble_eq_true rfl)) dX6_costOf_6 ⟨(Nat.le_of_ble_eq_true rfl), (Nat.le_of_ble_eq_true rfl)⟩) hS (fun q _ h => hF q h) hF (fun r u273 t H locs ht hvm hw hB hz1 hk1 hS => ?_)
    try dsimp only at hw hB
    obtain ⟨hP1, hD1⟩ := hB
    rw [ht] at hP1
    obtain ⟨hP, hD⟩ := post_j (ws' := [(h0, .inr (8, [.int 0, .int 0, .int 2, .ref h1, .ref h2, .int 0, .int 500, .int 0, .int 0, .int 0, .ref h3]))]) (wr := []) (w1 := [(h0, .inr (8, [.int 0, .int 0, .int 2, .ref h1, .ref h2, .int 0, .int 500, .int 0, .int 0, .int 0, .ref h3]))]) hP hD hF [0] rfl [] rfl (by decide) (by decide) hk1 hP1 hD1 [0] (by decide) rfl
    have hP : va_P D vwCl [(h0, .inr (8, [.int 0, .int 0, .int 2, .ref h1, .ref h2, .int 0, .int 500, .int 0, .int 0, .int 0, .ref h3]))] H := hP
    have hD : va_D A [(h0, .inr (8, [.int 0, .int 0, .int 2, .ref h1, .ref h2, .int 0, .int 500, .int 0, .int 0, .int 0, .ref h3]))] := hD
    rw [hw]
    have hP9 := hP.sub (ws' := [(h0, .inr (8, [.int 0, .int 0, .int 2, .ref h1, .ref h2, .int 0, .int 500, .int 0, .int 0, .int 0, .ref h3]))]) [0] rfl
    have hD9 := hD.sub (ws' := [(h0, .inr (8, [.int 0, .int 0, .int 2, .ref h1, .ref h2, .int 0, .int 500, .int 0, .int 0, .int 0, .ref h3]))]) [0] (by decide) rfl
    exact W.iret (v := ((7168 + ((1024 * (7812 - (p0).toInt64)) / 3906))).toInt32) hx hb hr (fun t ht hW => ⟨⟨((7168 + ((1024 * (7812 - (p0).toInt64)) / 3906))).toInt32, [.int 0, .int 0, .int 2, .ref h1, .ref h2, .int 0, .int 500, .int 0, .int 0, .int 0, .ref h3], rfl, ⟨c50, c51, c52, c53, c54, c55, c56, c57, c58, c59, rfl, rfl⟩, by rw [ht]; exact hP9, hD9⟩, hS.F ht⟩) hS.2.2 dX6_costOf_9
  · skip
    rw [hv72]
    exact absurd (iv81 _ hf1) c70
  · skip
    rw [hv85]
    exact absurd (iv81 _ hf1) c82
  · skip
    rw [hv99]
    exact absurd (iv81 _ hf1) c95
  · skip
    rw [hv114]
    exact absurd (iv81 _ hf1) c109
  · skip
    rw [hv130]
    exact absurd (iv81 _ hf1) c124
  · skip
    rw [hv147]
    exact absurd (iv81 _ hf1) c140
  · skip
    rw [hv165]
    exact absurd (iv81 _ hf1) c157
  · skip
    rw [hv184]
    exact absurd (iv81 _ hf1) c175
  · skip
    rw [hv204]
    exact absurd (iv81 _ hf1) c194
  · skip
    rw [hv225]
    exact absurd (iv81 _ hf1) c214
  · skip
    rw [hv247]
    exact absurd (iv81 _ hf1) c235
  · skip
    rw [hv269]
    exact absurd (iv81 _ hf1) c257
  · skip
    exact absurd (iv73 _ hf0) c271
  · skip
    exact absurd (iv72 _ hf1) c272

theorem iv82 (x : Int32) (h0 : 0 < (lg_cmp (x).toInt64 3906)) : 0 < x := by
  have e0 : (0 : Int32).toInt = 0 := by decide
  have e1 : (3906 : Int32).toInt = 3906 := by decide
  have f0 : (0 : Int64).toInt = 0 := by decide
  have f1 : (3906 : Int64).toInt = 3906 := by decide
  simp only [lg_cmp_lt0, lg_cmp_le0, lg_cmp_gt0, lg_cmp_ge0, lg_cmp_eq0] at *
  simp only [Int64.lt_iff_toInt_lt, Int64.le_iff_toInt_le, ← Int64.toInt_inj, Int32.toInt_toInt64, Int32.lt_iff_toInt_lt, Int32.le_iff_toInt_le, ← Int32.toInt_inj, e0, e1, f0, f1] at *
  omega

theorem iv83 (x : Int32) (h0 : ¬ 0 < (lg_cmp (x).toInt64 7812)) : x ≤ 7812 := by
  have e0 : (0 : Int32).toInt = 0 := by decide
  have e1 : (7812 : Int32).toInt = 7812 := by decide
  have f0 : (0 : Int64).toInt = 0 := by decide
  have f1 : (7812 : Int64).toInt = 7812 := by decide
  simp only [lg_cmp_lt0, lg_cmp_le0, lg_cmp_gt0, lg_cmp_ge0, lg_cmp_eq0] at *
  simp only [Int64.lt_iff_toInt_lt, Int64.le_iff_toInt_le, ← Int64.toInt_inj, Int32.toInt_toInt64, Int32.lt_iff_toInt_lt, Int32.le_iff_toInt_le, ← Int32.toInt_inj, e0, e1, f0, f1] at *
  omega

theorem iv84 (x : Int32) (h0 : 1953 < x) : 0 < (lg_cmp (x).toInt64 0) := by
  have e0 : (0 : Int32).toInt = 0 := by decide
  have e1 : (1953 : Int32).toInt = 1953 := by decide
  have f0 : (0 : Int64).toInt = 0 := by decide
  have f1 : (1953 : Int64).toInt = 1953 := by decide
  simp only [lg_cmp_lt0, lg_cmp_le0, lg_cmp_gt0, lg_cmp_ge0, lg_cmp_eq0] at *
  simp only [Int64.lt_iff_toInt_lt, Int64.le_iff_toInt_le, ← Int64.toInt_inj, Int32.toInt_toInt64, Int32.lt_iff_toInt_lt, Int32.le_iff_toInt_le, ← Int32.toInt_inj, e0, e1, f0, f1] at *
  omega

theorem iv85 (x : Int32) (h0 : ¬ 3906 < x) : (lg_cmp (x).toInt64 1000000) < 0 := by
  have e0 : (0 : Int32).toInt = 0 := by decide
  have e1 : (3906 : Int32).toInt = 3906 := by decide
  have e2 : (1000000 : Int32).toInt = 1000000 := by decide
  have f0 : (0 : Int64).toInt = 0 := by decide
  have f1 : (3906 : Int64).toInt = 3906 := by decide
  have f2 : (1000000 : Int64).toInt = 1000000 := by decide
  simp only [lg_cmp_lt0, lg_cmp_le0, lg_cmp_gt0, lg_cmp_ge0, lg_cmp_eq0] at *
  simp only [Int64.lt_iff_toInt_lt, Int64.le_iff_toInt_le, ← Int64.toInt_inj, Int32.toInt_toInt64, Int32.lt_iff_toInt_lt, Int32.le_iff_toInt_le, ← Int32.toInt_inj, e0, e1, e2, f0, f1, f2] at *
  omega

theorem iv86 (x : Int32) (h0 : ¬ 3906 < x) : ¬ 0 < (lg_cmp (x).toInt64 500000) := by
  have e0 : (0 : Int32).toInt = 0 := by decide
  have e1 : (3906 : Int32).toInt = 3906 := by decide
  have e2 : (500000 : Int32).toInt = 500000 := by decide
  have f0 : (0 : Int64).toInt = 0 := by decide
  have f1 : (3906 : Int64).toInt = 3906 := by decide
  have f2 : (500000 : Int64).toInt = 500000 := by decide
  simp only [lg_cmp_lt0, lg_cmp_le0, lg_cmp_gt0, lg_cmp_ge0, lg_cmp_eq0] at *
  simp only [Int64.lt_iff_toInt_lt, Int64.le_iff_toInt_le, ← Int64.toInt_inj, Int32.toInt_toInt64, Int32.lt_iff_toInt_lt, Int32.le_iff_toInt_le, ← Int32.toInt_inj, e0, e1, e2, f0, f1, f2] at *
  omega

theorem iv87 (x : Int32) (h0 : ¬ 3906 < x) : ¬ 0 < (lg_cmp (x).toInt64 250000) := by
  have e0 : (0 : Int32).toInt = 0 := by decide
  have e1 : (3906 : Int32).toInt = 3906 := by decide
  have e2 : (250000 : Int32).toInt = 250000 := by decide
  have f0 : (0 : Int64).toInt = 0 := by decide
  have f1 : (3906 : Int64).toInt = 3906 := by decide
  have f2 : (250000 : Int64).toInt = 250000 := by decide
  simp only [lg_cmp_lt0, lg_cmp_le0, lg_cmp_gt0, lg_cmp_ge0, lg_cmp_eq0] at *
  simp only [Int64.lt_iff_toInt_lt, Int64.le_iff_toInt_le, ← Int64.toInt_inj, Int32.toInt_toInt64, Int32.lt_iff_toInt_lt, Int32.le_iff_toInt_le, ← Int32.toInt_inj, e0, e1, e2, f0, f1, f2] at *
  omega

theorem iv88 (x : Int32) (h0 : ¬ 3906 < x) : ¬ 0 < (lg_cmp (x).toInt64 125000) := by
  have e0 : (0 : Int32).toInt = 0 := by decide
  have e1 : (3906 : Int32).toInt = 3906 := by decide
  have e2 : (125000 : Int32).toInt = 125000 := by decide
  have f0 : (0 : Int64).toInt = 0 := by decide
  have f1 : (3906 : Int64).toInt = 3906 := by decide
  have f2 : (125000 : Int64).toInt = 125000 := by decide
  simp only [lg_cmp_lt0, lg_cmp_le0, lg_cmp_gt0, lg_cmp_ge0, lg_cmp_eq0] at *
  simp only [Int64.lt_iff_toInt_lt, Int64.le_iff_toInt_le, ← Int64.toInt_inj, Int32.toInt_toInt64, Int32.lt_iff_toInt_lt, Int32.le_iff_toInt_le, ← Int32.toInt_inj, e0, e1, e2, f0, f1, f2] at *
  omega

theorem iv89 (x : Int32) (h0 : ¬ 3906 < x) : ¬ 0 < (lg_cmp (x).toInt64 62500) := by
  have e0 : (0 : Int32).toInt = 0 := by decide
  have e1 : (3906 : Int32).toInt = 3906 := by decide
  have e2 : (62500 : Int32).toInt = 62500 := by decide
  have f0 : (0 : Int64).toInt = 0 := by decide
  have f1 : (3906 : Int64).toInt = 3906 := by decide
  have f2 : (62500 : Int64).toInt = 62500 := by decide
  simp only [lg_cmp_lt0, lg_cmp_le0, lg_cmp_gt0, lg_cmp_ge0, lg_cmp_eq0] at *
  simp only [Int64.lt_iff_toInt_lt, Int64.le_iff_toInt_le, ← Int64.toInt_inj, Int32.toInt_toInt64, Int32.lt_iff_toInt_lt, Int32.le_iff_toInt_le, ← Int32.toInt_inj, e0, e1, e2, f0, f1, f2] at *
  omega

theorem iv90 (x : Int32) (h0 : ¬ 3906 < x) : ¬ 0 < (lg_cmp (x).toInt64 31250) := by
  have e0 : (0 : Int32).toInt = 0 := by decide
  have e1 : (3906 : Int32).toInt = 3906 := by decide
  have e2 : (31250 : Int32).toInt = 31250 := by decide
  have f0 : (0 : Int64).toInt = 0 := by decide
  have f1 : (3906 : Int64).toInt = 3906 := by decide
  have f2 : (31250 : Int64).toInt = 31250 := by decide
  simp only [lg_cmp_lt0, lg_cmp_le0, lg_cmp_gt0, lg_cmp_ge0, lg_cmp_eq0] at *
  simp only [Int64.lt_iff_toInt_lt, Int64.le_iff_toInt_le, ← Int64.toInt_inj, Int32.toInt_toInt64, Int32.lt_iff_toInt_lt, Int32.le_iff_toInt_le, ← Int32.toInt_inj, e0, e1, e2, f0, f1, f2] at *
  omega

theorem iv91 (x : Int32) (h0 : ¬ 3906 < x) : ¬ 0 < (lg_cmp (x).toInt64 15625) := by
  have e0 : (0 : Int32).toInt = 0 := by decide
  have e1 : (3906 : Int32).toInt = 3906 := by decide
  have e2 : (15625 : Int32).toInt = 15625 := by decide
  have f0 : (0 : Int64).toInt = 0 := by decide
  have f1 : (3906 : Int64).toInt = 3906 := by decide
  have f2 : (15625 : Int64).toInt = 15625 := by decide
  simp only [lg_cmp_lt0, lg_cmp_le0, lg_cmp_gt0, lg_cmp_ge0, lg_cmp_eq0] at *
  simp only [Int64.lt_iff_toInt_lt, Int64.le_iff_toInt_le, ← Int64.toInt_inj, Int32.toInt_toInt64, Int32.lt_iff_toInt_lt, Int32.le_iff_toInt_le, ← Int32.toInt_inj, e0, e1, e2, f0, f1, f2] at *
  omega

theorem iv92 (x : Int32) (h0 : ¬ 3906 < x) : ¬ 0 < (lg_cmp (x).toInt64 7812) := by
  have e0 : (0 : Int32).toInt = 0 := by decide
  have e1 : (3906 : Int32).toInt = 3906 := by decide
  have e2 : (7812 : Int32).toInt = 7812 := by decide
  have f0 : (0 : Int64).toInt = 0 := by decide
  have f1 : (3906 : Int64).toInt = 3906 := by decide
  have f2 : (7812 : Int64).toInt = 7812 := by decide
  simp only [lg_cmp_lt0, lg_cmp_le0, lg_cmp_gt0, lg_cmp_ge0, lg_cmp_eq0] at *
  simp only [Int64.lt_iff_toInt_lt, Int64.le_iff_toInt_le, ← Int64.toInt_inj, Int32.toInt_toInt64, Int32.lt_iff_toInt_lt, Int32.le_iff_toInt_le, ← Int32.toInt_inj, e0, e1, e2, f0, f1, f2] at *
  omega

theorem iv93 (x : Int32) (h0 : ¬ 3906 < x) : ¬ 0 < (lg_cmp (x).toInt64 3906) := by
  have e0 : (0 : Int32).toInt = 0 := by decide
  have e1 : (3906 : Int32).toInt = 3906 := by decide
  have f0 : (0 : Int64).toInt = 0 := by decide
  have f1 : (3906 : Int64).toInt = 3906 := by decide
  simp only [lg_cmp_lt0, lg_cmp_le0, lg_cmp_gt0, lg_cmp_ge0, lg_cmp_eq0] at *
  simp only [Int64.lt_iff_toInt_lt, Int64.le_iff_toInt_le, ← Int64.toInt_inj, Int32.toInt_toInt64, Int32.lt_iff_toInt_lt, Int32.le_iff_toInt_le, ← Int32.toInt_inj, e0, e1, f0, f1] at *
  omega

theorem iv94 (x : Int32) (h0 : 1953 < x) : 0 < (lg_cmp (x).toInt64 1953) := by
  have e0 : (0 : Int32).toInt = 0 := by decide
  have e1 : (1953 : Int32).toInt = 1953 := by decide
  have f0 : (0 : Int64).toInt = 0 := by decide
  have f1 : (1953 : Int64).toInt = 1953 := by decide
  simp only [lg_cmp_lt0, lg_cmp_le0, lg_cmp_gt0, lg_cmp_ge0, lg_cmp_eq0] at *
  simp only [Int64.lt_iff_toInt_lt, Int64.le_iff_toInt_le, ← Int64.toInt_inj, Int32.toInt_toInt64, Int32.lt_iff_toInt_lt, Int32.le_iff_toInt_le, ← Int32.toInt_inj, e0, e1, f0, f1] at *
  omega

set_option maxHeartbeats 4000000 in
set_option maxRecDepth 100000 in
theorem k_X6_costOf_8 (l : Launch) (D : va_G) (κ ε : Nat → Nat) (h0 h1 h2 h3 : Nat) (sz : Nat) (p0 : Int32) (hf0 : ¬ 3906 < p0) (hf1 : 1953 < p0) : Met l yX6_costOf wsX6_costOf ({ frames := 1, cells := 0, slots := 0, locals := 26 }) (va_Pc [.ref h0, .int p0] (Pre2 D κ ε [(h0, .inr (8, [.int 0, .int 0, .int 2, .ref h1, .ref h2, .int 0, .int 500, .int 0, .int 0, .int 0, .ref h3]))] sz)) (va_Qi (fun r (u : List Value) => (0 < (lg_cmp (p0).toInt64 0)) ∧ ((lg_cmp (p0).toInt64 1000000) < 0) ∧ (¬ 0 < (lg_cmp (p0).toInt64 500000)) ∧ (¬ 0 < (lg_cmp (p0).toInt64 250000)) ∧ (¬ 0 < (lg_cmp (p0).toInt64 125000)) ∧ (¬ 0 < (lg_cmp (p0).toInt64 62500)) ∧ (¬ 0 < (lg_cmp (p0).toInt64 31250)) ∧ (¬ 0 < (lg_cmp (p0).toInt64 15625)) ∧ (¬ 0 < (lg_cmp (p0).toInt64 7812)) ∧ (¬ 0 < (lg_cmp (p0).toInt64 3906)) ∧ (0 < (lg_cmp (p0).toInt64 1953)) ∧ (u[0]? = some (.int 0)) ∧ (r = ((8192 + ((1024 * (3906 - (p0).toInt64)) / 1953))).toInt32)) (fun u t => va_P D vwCl [(h0, .inr (8, u))] t.heap ∧ va_D (va_A [(h0, .inr (8, [.int 0, .int 0, .int 2, .ref h1, .ref h2, .int 0, .int 500, .int 0, .int 0, .int 0, .ref h3]))] sz) [(h0, .inr (8, u))]) (va_A [(h0, .inr (8, [.int 0, .int 0, .int 2, .ref h1, .ref h2, .int 0, .int 500, .int 0, .int 0, .int 0, .ref h3]))] sz)) 0 0 (va_A [(h0, .inr (8, [.int 0, .int 0, .int 2, .ref h1, .ref h2, .int 0, .int 500, .int 0, .int 0, .int 0, .ref h3]))] sz) := by
  refine Met.ofW (cc := cX6_costOf) (maxL := 2) (ret := (some .int)) (by decide) rfl ?_
  intro p e s m args below meth c s₁ B hml hv
  obtain ⟨rfl, hsz, hP, hK, hD0, hE9⟩ := hv
  have hx := B.exec
  have hb := B.bytes
  have hr := B.returns
  have hts := atoms_spec (ws := wsX6_costOf) B.pre
  have hown : s.vm.findClass RX6 = some m.cls := findClass_of_methodNamed B.named
  have hlocks := B.notSynchronized
  subst hsz
  have hD := hD0.self (sz := s.heap.size)
  generalize hAe : va_A [(h0, .inr (8, [.int 0, .int 0, .int 2, .ref h1, .ref h2, .int 0, .int 500, .int 0, .int 0, .int 0, .ref h3]))] s.heap.size = A at hD hE9 ⊢
  have hE := hE9.1
  have hDc := hE9.2
  have hA : ∀ q : Nat, s.heap.size ≤ q → A q := fun q h => by rw [← hAe]; exact Or.inr h
  have hS : va_S A s.heap s.heap [] := va_S.rf
  have hP : va_P D vwCl [(h0, .inr (8, [.int 0, .int 0, .int 2, .ref h1, .ref h2, .int 0, .int 500, .int 0, .int 0, .int 0, .ref h3]))] s.heap := hP
  have hl := lv_entry [.ref h0, .int p0] (n := 2) (Nat.le_of_ble_eq_true rfl)
  rw [lg_entry_eq]
  generalize (lg_sl [.ref h0, .int p0] ++ List.replicate (2 - (lg_sl [.ref h0, .int p0]).length) Slot.unset).toArray = ls at hl ⊢
  have hl : lv_has ls 2 [(0, .ref h0), (1, .int p0)] := hl
  refine lv_aload_n hx hb dX6_costOf_0 rfl (lv_at hl 0 rfl) ?_
  refine lv_iload_n hx hb dX6_costOf_1 rfl (lv_at hl 1 rfl) ?_
  refine lv_i2l (v := (p0).toInt64) hx hb dX6_costOf_2 rfl ?_
  refine vp_callSi (W.runS (As := [.long (p0).toInt64]) (rest := [.ref h0]) ⟨hx, hb, hml, hown, hts⟩ (k_X6_cost_0 l D κ ε ((p0).toInt64)) (va_cwS 1 hts gX6_costOf_X6_cost rfl rfl rfl (by decide +kernel) ⟨(Nat.le_of_ble_eq_true rfl), (Nat.le_of_ble_eq_true rfl)⟩) (pre0_S (wc := []) hP hK [] rfl) rfl rfl hl.1 rfl (lv_room (Nat.le_of_ble_eq_true rfl)) dX6_costOf_3 ⟨(Nat.le_of_ble_eq_true rfl), (Nat.le_of_ble_eq_true rfl)⟩) (fun r hw => ?_)
  rcases hw with ⟨c1, c2, c3, hv4⟩ | ⟨c5, c6, c7, c8, hv9⟩ | ⟨c10, c11, c12, c13, c14, hv15⟩ | ⟨c16, c17, c18, c19, c20, c21, hv22⟩ | ⟨c23, c24, c25, c26, c27, c28, c29, hv30⟩ | ⟨c31, c32, c33, c34, c35, c36, c37, c38, hv39⟩ | ⟨c40, c41, c42, c43, c44, c45, c46, c47, c48, hv49⟩ | ⟨c50, c51, c52, c53, c54, c55, c56, c57, c58, c59, hv60⟩ | ⟨c61, c62, c63, c64, c65, c66, c67, c68, c69, c70, c71, hv72⟩ | ⟨c73, c74, c75, c76, c77, c78, c79, c80, c81, c82, c83, c84, hv85⟩ | ⟨c86, c87, c88, c89, c90, c91, c92, c93, c94, c95, c96, c97, c98, hv99⟩ | ⟨c100, c101, c102, c103, c104, c105, c106, c107, c108, c109, c110, c111, c112, c113, hv114⟩ | ⟨c115, c116, c117, c118, c119, c120, c121, c122, c123, c124, c125, c126, c127, c128, c129, hv130⟩ | ⟨c131, c132, c133, c134, c135, c136, c137, c138, c139, c140, c141, c142, c143, c144, c145, c146, hv147⟩ | ⟨c148, c149, c150, c151, c152, c153, c154, c155, c156, c157, c158, c159, c160, c161, c162, c163, c164, hv165⟩ | ⟨c166, c167, c168, c169, c170, c171, c172, c173, c174, c175, c176, c177, c178, c179, c180, c181, c182, c183, hv184⟩ | ⟨c185, c186, c187, c188, c189, c190, c191, c192, c193, c194, c195, c196, c197, c198, c199, c200, c201, c202, c203, hv204⟩ | ⟨c205, c206, c207, c208, c209, c210, c211, c212, c213, c214, c215, c216, c217, c218, c219, c220, c221, c222, c223, c224, hv225⟩ | ⟨c226, c227, c228, c229, c230, c231, c232, c233, c234, c235, c236, c237, c238, c239, c240, c241, c242, c243, c244, c245, c246, hv247⟩ | ⟨c248, c249, c250, c251, c252, c253, c254, c255, c256, c257, c258, c259, c260, c261, c262, c263, c264, c265, c266, c267, c268, hv269⟩ | ⟨c270, c271, rfl⟩ | ⟨c272, rfl⟩
  · skip
    rw [hv4]
    exact absurd c3 (iv86 _ hf0)
  · skip
    rw [hv9]
    exact absurd c8 (iv87 _ hf0)
  · skip
    rw [hv15]
    exact absurd c14 (iv88 _ hf0)
  · skip
    rw [hv22]
    exact absurd c21 (iv89 _ hf0)
  · skip
    rw [hv30]
    exact absurd c29 (iv90 _ hf0)
  · skip
    rw [hv39]
    exact absurd c38 (iv91 _ hf0)
  · skip
    rw [hv49]
    exact absurd c48 (iv92 _ hf0)
  · skip
    rw [hv60]
    exact absurd c59 (iv93 _ hf0)
  · skip
    rw [hv72]
    have hF := va_free (wc := [(h0, .inr (8, [.int 0, .int 0, .int 2, .ref h1, .ref h2, .int 0, .int 500, .int 0, .int 0, .int 0, .ref h3]))]) hD hS hA [0] rfl
    refine va_calli (va_runV (As := [.int ((8192 + ((1024 * (3906 - (p0).toInt64)) / 1953))).toInt32]) (rest := []) ⟨hx, hb, hml, hown, hts⟩ (k_X6_plain_2 l D κ ε h0 h1 h2 h3 s.heap.size (((8192 + ((1024 * (3906 - (p0).toInt64)) / 1953))).toInt32) (0) (0) (2) (0) (500) (0) (0)) (cwV 1 hts gX6_costOf_X6_plain rfl rfl rfl (by decide +kernel) ⟨(Nat.le_of_ble_eq_true rfl), (Nat.le_of_ble_eq_true rfl)⟩) (pre2_V (q0 := 0) (ci := 8) (wc := [(h0, .inr (8, [.int 0, .int 0, .int 2, .ref h1, .ref h2, .int 0, .int 500, .int 0, .int 0, .int 0, .ref h3]))]) hP hD hK hE9 hS hA [0] (by decide) rfl rfl rfl) rfl rfl hl.1 rfl (lv_room (Nat.le_of_ble_eq_true rfl)) dX6_costOf_6 ⟨(Nat.le_of_ble_eq_true rfl), (Nat.le_of_ble_eq_true rfl)⟩) hS (fun q _ h => hF q h) hF (fun r u273 t H locs ht hvm hw hB hz1 hk1 hS => ?_)
    try dsimp only at hw hB
    obtain ⟨hP1, hD1⟩ := hB
    rw [ht] at hP1
    obtain ⟨hP, hD⟩ := post_j (ws' := [(h0, .inr (8, [.int 0, .int 0, .int 2, .ref h1, .ref h2, .int 0, .int 500, .int 0, .int 0, .int 0, .ref h3]))]) (wr := []) (w1 := [(h0, .inr (8, [.int 0, .int 0, .int 2, .ref h1, .ref h2, .int 0, .int 500, .int 0, .int 0, .int 0, .ref h3]))]) hP hD hF [0] rfl [] rfl (by decide) (by decide) hk1 hP1 hD1 [0] (by decide) rfl
    have hP : va_P D vwCl [(h0, .inr (8, [.int 0, .int 0, .int 2, .ref h1, .ref h2, .int 0, .int 500, .int 0, .int 0, .int 0, .ref h3]))] H := hP
    have hD : va_D A [(h0, .inr (8, [.int 0, .int 0, .int 2, .ref h1, .ref h2, .int 0, .int 500, .int 0, .int 0, .int 0, .ref h3]))] := hD
    rw [hw]
    have hP9 := hP.sub (ws' := [(h0, .inr (8, [.int 0, .int 0, .int 2, .ref h1, .ref h2, .int 0, .int 500, .int 0, .int 0, .int 0, .ref h3]))]) [0] rfl
    have hD9 := hD.sub (ws' := [(h0, .inr (8, [.int 0, .int 0, .int 2, .ref h1, .ref h2, .int 0, .int 500, .int 0, .int 0, .int 0, .ref h3]))]) [0] (by decide) rfl
    exact W.iret (v := ((8192 + ((1024 * (3906 - (p0).toInt64)) / 1953))).toInt32) hx hb hr (fun t ht hW => ⟨⟨((8192 + ((1024 * (3906 - (p0).toInt64)) / 1953))).toInt32, [.int 0, .int 0, .int 2, .ref h1, .ref h2, .int 0, .int 500, .int 0, .int 0, .int 0, .ref h3], rfl, ⟨c61, c62, c63, c64, c65, c66, c67, c68, c69, c70, c71, rfl, rfl⟩, by rw [ht]; exact hP9, hD9⟩, hS.F ht⟩) hS.2.2 dX6_costOf_9
  · skip
    rw [hv85]
    exact absurd (iv94 _ hf1) c83
  · skip
    rw [hv99]
    exact absurd (iv94 _ hf1) c96
  · skip
    rw [hv114]
    exact absurd (iv94 _ hf1) c110
  · skip
    rw [hv130]
    exact absurd (iv94 _ hf1) c125
  · skip
    rw [hv147]
    exact absurd (iv94 _ hf1) c141
  · skip
    rw [hv165]
    exact absurd (iv94 _ hf1) c158
  · skip
    rw [hv184]
    exact absurd (iv94 _ hf1) c176
  · skip
    rw [hv204]
    exact absurd (iv94 _ hf1) c195
  · skip
    rw [hv225]
    exact absurd (iv94 _ hf1) c215
  · skip
    rw [hv247]
    exact absurd (iv94 _ hf1) c236
  · skip
    rw [hv269]
    exact absurd (iv94 _ hf1) c258
  · skip
    exact absurd (iv85 _ hf0) c271
  · skip
    exact absurd (iv84 _ hf1) c272

theorem iv95 (x : Int32) (h0 : 0 < (lg_cmp (x).toInt64 1953)) : 0 < x := by
  have e0 : (0 : Int32).toInt = 0 := by decide
  have e1 : (1953 : Int32).toInt = 1953 := by decide
  have f0 : (0 : Int64).toInt = 0 := by decide
  have f1 : (1953 : Int64).toInt = 1953 := by decide
  simp only [lg_cmp_lt0, lg_cmp_le0, lg_cmp_gt0, lg_cmp_ge0, lg_cmp_eq0] at *
  simp only [Int64.lt_iff_toInt_lt, Int64.le_iff_toInt_le, ← Int64.toInt_inj, Int32.toInt_toInt64, Int32.lt_iff_toInt_lt, Int32.le_iff_toInt_le, ← Int32.toInt_inj, e0, e1, f0, f1] at *
  omega

theorem iv96 (x : Int32) (h0 : ¬ 0 < (lg_cmp (x).toInt64 3906)) : x ≤ 3906 := by
  have e0 : (0 : Int32).toInt = 0 := by decide
  have e1 : (3906 : Int32).toInt = 3906 := by decide
  have f0 : (0 : Int64).toInt = 0 := by decide
  have f1 : (3906 : Int64).toInt = 3906 := by decide
  simp only [lg_cmp_lt0, lg_cmp_le0, lg_cmp_gt0, lg_cmp_ge0, lg_cmp_eq0] at *
  simp only [Int64.lt_iff_toInt_lt, Int64.le_iff_toInt_le, ← Int64.toInt_inj, Int32.toInt_toInt64, Int32.lt_iff_toInt_lt, Int32.le_iff_toInt_le, ← Int32.toInt_inj, e0, e1, f0, f1] at *
  omega

theorem iv97 (x : Int32) (h0 : 976 < x) : 0 < (lg_cmp (x).toInt64 0) := by
  have e0 : (0 : Int32).toInt = 0 := by decide
  have e1 : (976 : Int32).toInt = 976 := by decide
  have f0 : (0 : Int64).toInt = 0 := by decide
  have f1 : (976 : Int64).toInt = 976 := by decide
  simp only [lg_cmp_lt0, lg_cmp_le0, lg_cmp_gt0, lg_cmp_ge0, lg_cmp_eq0] at *
  simp only [Int64.lt_iff_toInt_lt, Int64.le_iff_toInt_le, ← Int64.toInt_inj, Int32.toInt_toInt64, Int32.lt_iff_toInt_lt, Int32.le_iff_toInt_le, ← Int32.toInt_inj, e0, e1, f0, f1] at *
  omega

theorem iv98 (x : Int32) (h0 : ¬ 1953 < x) : (lg_cmp (x).toInt64 1000000) < 0 := by
  have e0 : (0 : Int32).toInt = 0 := by decide
  have e1 : (1953 : Int32).toInt = 1953 := by decide
  have e2 : (1000000 : Int32).toInt = 1000000 := by decide
  have f0 : (0 : Int64).toInt = 0 := by decide
  have f1 : (1953 : Int64).toInt = 1953 := by decide
  have f2 : (1000000 : Int64).toInt = 1000000 := by decide
  simp only [lg_cmp_lt0, lg_cmp_le0, lg_cmp_gt0, lg_cmp_ge0, lg_cmp_eq0] at *
  simp only [Int64.lt_iff_toInt_lt, Int64.le_iff_toInt_le, ← Int64.toInt_inj, Int32.toInt_toInt64, Int32.lt_iff_toInt_lt, Int32.le_iff_toInt_le, ← Int32.toInt_inj, e0, e1, e2, f0, f1, f2] at *
  omega

theorem iv99 (x : Int32) (h0 : ¬ 1953 < x) : ¬ 0 < (lg_cmp (x).toInt64 500000) := by
  have e0 : (0 : Int32).toInt = 0 := by decide
  have e1 : (1953 : Int32).toInt = 1953 := by decide
  have e2 : (500000 : Int32).toInt = 500000 := by decide
  have f0 : (0 : Int64).toInt = 0 := by decide
  have f1 : (1953 : Int64).toInt = 1953 := by decide
  have f2 : (500000 : Int64).toInt = 500000 := by decide
  simp only [lg_cmp_lt0, lg_cmp_le0, lg_cmp_gt0, lg_cmp_ge0, lg_cmp_eq0] at *
  simp only [Int64.lt_iff_toInt_lt, Int64.le_iff_toInt_le, ← Int64.toInt_inj, Int32.toInt_toInt64, Int32.lt_iff_toInt_lt, Int32.le_iff_toInt_le, ← Int32.toInt_inj, e0, e1, e2, f0, f1, f2] at *
  omega

theorem iv100 (x : Int32) (h0 : ¬ 1953 < x) : ¬ 0 < (lg_cmp (x).toInt64 250000) := by
  have e0 : (0 : Int32).toInt = 0 := by decide
  have e1 : (1953 : Int32).toInt = 1953 := by decide
  have e2 : (250000 : Int32).toInt = 250000 := by decide
  have f0 : (0 : Int64).toInt = 0 := by decide
  have f1 : (1953 : Int64).toInt = 1953 := by decide
  have f2 : (250000 : Int64).toInt = 250000 := by decide
  simp only [lg_cmp_lt0, lg_cmp_le0, lg_cmp_gt0, lg_cmp_ge0, lg_cmp_eq0] at *
  simp only [Int64.lt_iff_toInt_lt, Int64.le_iff_toInt_le, ← Int64.toInt_inj, Int32.toInt_toInt64, Int32.lt_iff_toInt_lt, Int32.le_iff_toInt_le, ← Int32.toInt_inj, e0, e1, e2, f0, f1, f2] at *
  omega

theorem iv101 (x : Int32) (h0 : ¬ 1953 < x) : ¬ 0 < (lg_cmp (x).toInt64 125000) := by
  have e0 : (0 : Int32).toInt = 0 := by decide
  have e1 : (1953 : Int32).toInt = 1953 := by decide
  have e2 : (125000 : Int32).toInt = 125000 := by decide
  have f0 : (0 : Int64).toInt = 0 := by decide
  have f1 : (1953 : Int64).toInt = 1953 := by decide
  have f2 : (125000 : Int64).toInt = 125000 := by decide
  simp only [lg_cmp_lt0, lg_cmp_le0, lg_cmp_gt0, lg_cmp_ge0, lg_cmp_eq0] at *
  simp only [Int64.lt_iff_toInt_lt, Int64.le_iff_toInt_le, ← Int64.toInt_inj, Int32.toInt_toInt64, Int32.lt_iff_toInt_lt, Int32.le_iff_toInt_le, ← Int32.toInt_inj, e0, e1, e2, f0, f1, f2] at *
  omega

theorem iv102 (x : Int32) (h0 : ¬ 1953 < x) : ¬ 0 < (lg_cmp (x).toInt64 62500) := by
  have e0 : (0 : Int32).toInt = 0 := by decide
  have e1 : (1953 : Int32).toInt = 1953 := by decide
  have e2 : (62500 : Int32).toInt = 62500 := by decide
  have f0 : (0 : Int64).toInt = 0 := by decide
  have f1 : (1953 : Int64).toInt = 1953 := by decide
  have f2 : (62500 : Int64).toInt = 62500 := by decide
  simp only [lg_cmp_lt0, lg_cmp_le0, lg_cmp_gt0, lg_cmp_ge0, lg_cmp_eq0] at *
  simp only [Int64.lt_iff_toInt_lt, Int64.le_iff_toInt_le, ← Int64.toInt_inj, Int32.toInt_toInt64, Int32.lt_iff_toInt_lt, Int32.le_iff_toInt_le, ← Int32.toInt_inj, e0, e1, e2, f0, f1, f2] at *
  omega

theorem iv103 (x : Int32) (h0 : ¬ 1953 < x) : ¬ 0 < (lg_cmp (x).toInt64 31250) := by
  have e0 : (0 : Int32).toInt = 0 := by decide
  have e1 : (1953 : Int32).toInt = 1953 := by decide
  have e2 : (31250 : Int32).toInt = 31250 := by decide
  have f0 : (0 : Int64).toInt = 0 := by decide
  have f1 : (1953 : Int64).toInt = 1953 := by decide
  have f2 : (31250 : Int64).toInt = 31250 := by decide
  simp only [lg_cmp_lt0, lg_cmp_le0, lg_cmp_gt0, lg_cmp_ge0, lg_cmp_eq0] at *
  simp only [Int64.lt_iff_toInt_lt, Int64.le_iff_toInt_le, ← Int64.toInt_inj, Int32.toInt_toInt64, Int32.lt_iff_toInt_lt, Int32.le_iff_toInt_le, ← Int32.toInt_inj, e0, e1, e2, f0, f1, f2] at *
  omega

theorem iv104 (x : Int32) (h0 : ¬ 1953 < x) : ¬ 0 < (lg_cmp (x).toInt64 15625) := by
  have e0 : (0 : Int32).toInt = 0 := by decide
  have e1 : (1953 : Int32).toInt = 1953 := by decide
  have e2 : (15625 : Int32).toInt = 15625 := by decide
  have f0 : (0 : Int64).toInt = 0 := by decide
  have f1 : (1953 : Int64).toInt = 1953 := by decide
  have f2 : (15625 : Int64).toInt = 15625 := by decide
  simp only [lg_cmp_lt0, lg_cmp_le0, lg_cmp_gt0, lg_cmp_ge0, lg_cmp_eq0] at *
  simp only [Int64.lt_iff_toInt_lt, Int64.le_iff_toInt_le, ← Int64.toInt_inj, Int32.toInt_toInt64, Int32.lt_iff_toInt_lt, Int32.le_iff_toInt_le, ← Int32.toInt_inj, e0, e1, e2, f0, f1, f2] at *
  omega

theorem iv105 (x : Int32) (h0 : ¬ 1953 < x) : ¬ 0 < (lg_cmp (x).toInt64 7812) := by
  have e0 : (0 : Int32).toInt = 0 := by decide
  have e1 : (1953 : Int32).toInt = 1953 := by decide
  have e2 : (7812 : Int32).toInt = 7812 := by decide
  have f0 : (0 : Int64).toInt = 0 := by decide
  have f1 : (1953 : Int64).toInt = 1953 := by decide
  have f2 : (7812 : Int64).toInt = 7812 := by decide
  simp only [lg_cmp_lt0, lg_cmp_le0, lg_cmp_gt0, lg_cmp_ge0, lg_cmp_eq0] at *
  simp only [Int64.lt_iff_toInt_lt, Int64.le_iff_toInt_le, ← Int64.toInt_inj, Int32.toInt_toInt64, Int32.lt_iff_toInt_lt, Int32.le_iff_toInt_le, ← Int32.toInt_inj, e0, e1, e2, f0, f1, f2] at *
  omega

theorem iv106 (x : Int32) (h0 : ¬ 1953 < x) : ¬ 0 < (lg_cmp (x).toInt64 3906) := by
  have e0 : (0 : Int32).toInt = 0 := by decide
  have e1 : (1953 : Int32).toInt = 1953 := by decide
  have e2 : (3906 : Int32).toInt = 3906 := by decide
  have f0 : (0 : Int64).toInt = 0 := by decide
  have f1 : (1953 : Int64).toInt = 1953 := by decide
  have f2 : (3906 : Int64).toInt = 3906 := by decide
  simp only [lg_cmp_lt0, lg_cmp_le0, lg_cmp_gt0, lg_cmp_ge0, lg_cmp_eq0] at *
  simp only [Int64.lt_iff_toInt_lt, Int64.le_iff_toInt_le, ← Int64.toInt_inj, Int32.toInt_toInt64, Int32.lt_iff_toInt_lt, Int32.le_iff_toInt_le, ← Int32.toInt_inj, e0, e1, e2, f0, f1, f2] at *
  omega

theorem iv107 (x : Int32) (h0 : ¬ 1953 < x) : ¬ 0 < (lg_cmp (x).toInt64 1953) := by
  have e0 : (0 : Int32).toInt = 0 := by decide
  have e1 : (1953 : Int32).toInt = 1953 := by decide
  have f0 : (0 : Int64).toInt = 0 := by decide
  have f1 : (1953 : Int64).toInt = 1953 := by decide
  simp only [lg_cmp_lt0, lg_cmp_le0, lg_cmp_gt0, lg_cmp_ge0, lg_cmp_eq0] at *
  simp only [Int64.lt_iff_toInt_lt, Int64.le_iff_toInt_le, ← Int64.toInt_inj, Int32.toInt_toInt64, Int32.lt_iff_toInt_lt, Int32.le_iff_toInt_le, ← Int32.toInt_inj, e0, e1, f0, f1] at *
  omega

theorem iv108 (x : Int32) (h0 : 976 < x) : 0 < (lg_cmp (x).toInt64 976) := by
  have e0 : (0 : Int32).toInt = 0 := by decide
  have e1 : (976 : Int32).toInt = 976 := by decide
  have f0 : (0 : Int64).toInt = 0 := by decide
  have f1 : (976 : Int64).toInt = 976 := by decide
  simp only [lg_cmp_lt0, lg_cmp_le0, lg_cmp_gt0, lg_cmp_ge0, lg_cmp_eq0] at *
  simp only [Int64.lt_iff_toInt_lt, Int64.le_iff_toInt_le, ← Int64.toInt_inj, Int32.toInt_toInt64, Int32.lt_iff_toInt_lt, Int32.le_iff_toInt_le, ← Int32.toInt_inj, e0, e1, f0, f1] at *
  omega

set_option maxHeartbeats 4000000 in
set_option maxRecDepth 100000 in
theorem k_X6_costOf_9 (l : Launch) (D : va_G) (κ ε : Nat → Nat) (h0 h1 h2 h3 : Nat) (sz : Nat) (p0 : Int32) (hf0 : ¬ 1953 < p0) (hf1 : 976 < p0) : Met l yX6_costOf wsX6_costOf ({ frames := 1, cells := 0, slots := 0, locals := 26 }) (va_Pc [.ref h0, .int p0] (Pre2 D κ ε [(h0, .inr (8, [.int 0, .int 0, .int 2, .ref h1, .ref h2, .int 0, .int 500, .int 0, .int 0, .int 0, .ref h3]))] sz)) (va_Qi (fun r (u : List Value) => (0 < (lg_cmp (p0).toInt64 0)) ∧ ((lg_cmp (p0).toInt64 1000000) < 0) ∧ (¬ 0 < (lg_cmp (p0).toInt64 500000)) ∧ (¬ 0 < (lg_cmp (p0).toInt64 250000)) ∧ (¬ 0 < (lg_cmp (p0).toInt64 125000)) ∧ (¬ 0 < (lg_cmp (p0).toInt64 62500)) ∧ (¬ 0 < (lg_cmp (p0).toInt64 31250)) ∧ (¬ 0 < (lg_cmp (p0).toInt64 15625)) ∧ (¬ 0 < (lg_cmp (p0).toInt64 7812)) ∧ (¬ 0 < (lg_cmp (p0).toInt64 3906)) ∧ (¬ 0 < (lg_cmp (p0).toInt64 1953)) ∧ (0 < (lg_cmp (p0).toInt64 976)) ∧ (u[0]? = some (.int 0)) ∧ (r = ((9216 + ((1024 * (1953 - (p0).toInt64)) / 977))).toInt32)) (fun u t => va_P D vwCl [(h0, .inr (8, u))] t.heap ∧ va_D (va_A [(h0, .inr (8, [.int 0, .int 0, .int 2, .ref h1, .ref h2, .int 0, .int 500, .int 0, .int 0, .int 0, .ref h3]))] sz) [(h0, .inr (8, u))]) (va_A [(h0, .inr (8, [.int 0, .int 0, .int 2, .ref h1, .ref h2, .int 0, .int 500, .int 0, .int 0, .int 0, .ref h3]))] sz)) 0 0 (va_A [(h0, .inr (8, [.int 0, .int 0, .int 2, .ref h1, .ref h2, .int 0, .int 500, .int 0, .int 0, .int 0, .ref h3]))] sz) := by
  refine Met.ofW (cc := cX6_costOf) (maxL := 2) (ret := (some .int)) (by decide) rfl ?_
  intro p e s m args below meth c s₁ B hml hv
  obtain ⟨rfl, hsz, hP, hK, hD0, hE9⟩ := hv
  have hx := B.exec
  have hb := B.bytes
  have hr := B.returns
  have hts := atoms_spec (ws := wsX6_costOf) B.pre
  have hown : s.vm.findClass RX6 = some m.cls := findClass_of_methodNamed B.named
  have hlocks := B.notSynchronized
  subst hsz
  have hD := hD0.self (sz := s.heap.size)
  generalize hAe : va_A [(h0, .inr (8, [.int 0, .int 0, .int 2, .ref h1, .ref h2, .int 0, .int 500, .int 0, .int 0, .int 0, .ref h3]))] s.heap.size = A at hD hE9 ⊢
  have hE := hE9.1
  have hDc := hE9.2
  have hA : ∀ q : Nat, s.heap.size ≤ q → A q := fun q h => by rw [← hAe]; exact Or.inr h
  have hS : va_S A s.heap s.heap [] := va_S.rf
  have hP : va_P D vwCl [(h0, .inr (8, [.int 0, .int 0, .int 2, .ref h1, .ref h2, .int 0, .int 500, .int 0, .int 0, .int 0, .ref h3]))] s.heap := hP
  have hl := lv_entry [.ref h0, .int p0] (n := 2) (Nat.le_of_ble_eq_true rfl)
  rw [lg_entry_eq]
  generalize (lg_sl [.ref h0, .int p0] ++ List.replicate (2 - (lg_sl [.ref h0, .int p0]).length) Slot.unset).toArray = ls at hl ⊢
  have hl : lv_has ls 2 [(0, .ref h0), (1, .int p0)] := hl
  refine lv_aload_n hx hb dX6_costOf_0 rfl (lv_at hl 0 rfl) ?_
  refine lv_iload_n hx hb dX6_costOf_1 rfl (lv_at hl 1 rfl) ?_
  refine lv_i2l (v := (p0).toInt64) hx hb dX6_costOf_2 rfl ?_
  refine vp_callSi (W.runS (As := [.long (p0).toInt64]) (rest := [.ref h0]) ⟨hx, hb, hml, hown, hts⟩ (k_X6_cost_0 l D κ ε ((p0).toInt64)) (va_cwS 1 hts gX6_costOf_X6_cost rfl rfl rfl (by decide +kernel) ⟨(Nat.le_of_ble_eq_true rfl), (Nat.le_of_ble_eq_true rfl)⟩) (pre0_S (wc := []) hP hK [] rfl) rfl rfl hl.1 rfl (lv_room (Nat.le_of_ble_eq_true rfl)) dX6_costOf_3 ⟨(Nat.le_of_ble_eq_true rfl), (Nat.le_of_ble_eq_true rfl)⟩) (fun r hw => ?_)
  rcases hw with ⟨c1, c2, c3, hv4⟩ | ⟨c5, c6, c7, c8, hv9⟩ | ⟨c10, c11, c12, c13, c14, hv15⟩ | ⟨c16, c17, c18, c19, c20, c21, hv22⟩ | ⟨c23, c24, c25, c26, c27, c28, c29, hv30⟩ | ⟨c31, c32, c33, c34, c35, c36, c37, c38, hv39⟩ | ⟨c40, c41, c42, c43, c44, c45, c46, c47, c48, hv49⟩ | ⟨c50, c51, c52, c53, c54, c55, c56, c57, c58, c59, hv60⟩ | ⟨c61, c62, c63, c64, c65, c66, c67, c68, c69, c70, c71, hv72⟩ | ⟨c73, c74, c75, c76, c77, c78, c79, c80, c81, c82, c83, c84, hv85⟩ | ⟨c86, c87, c88, c89, c90, c91, c92, c93, c94, c95, c96, c97, c98, hv99⟩ | ⟨c100, c101, c102, c103, c104, c105, c106, c107, c108, c109, c110, c111, c112, c113, hv114⟩ | ⟨c115, c116, c117, c118, c119, c120, c121, c122, c123, c124, c125, c126, c127, c128, c129, hv130⟩ | ⟨c131, c132, c133, c134, c135, c136, c137, c138, c139, c140, c141, c142, c143, c144, c145, c146, hv147⟩ | ⟨c148, c149, c150, c151, c152, c153, c154, c155, c156, c157, c158, c159, c160, c161, c162, c163, c164, hv165⟩ | ⟨c166, c167, c168, c169, c170, c171, c172, c173, c174, c175, c176, c177, c178, c179, c180, c181, c182, c183, hv184⟩ | ⟨c185, c186, c187, c188, c189, c190, c191, c192, c193, c194, c195, c196, c197, c198, c199, c200, c201, c202, c203, hv204⟩ | ⟨c205, c206, c207, c208, c209, c210, c211, c212, c213, c214, c215, c216, c217, c218, c219, c220, c221, c222, c223, c224, hv225⟩ | ⟨c226, c227, c228, c229, c230, c231, c232, c233, c234, c235, c236, c237, c238, c239, c240, c241, c242, c243, c244, c245, c246, hv247⟩ | ⟨c248, c249, c250, c251, c252, c253, c254, c255, c256, c257, c258, c259, c260, c261, c262, c263, c264, c265, c266, c267, c268, hv269⟩ | ⟨c270, c271, rfl⟩ | ⟨c272, rfl⟩
  · skip
    rw [hv4]
    exact absurd c3 (iv99 _ hf0)
  · skip
    rw [hv9]
    exact absurd c8 (iv100 _ hf0)
  · skip
    rw [hv15]
    exact absurd c14 (iv101 _ hf0)
  · skip
    rw [hv22]
    exact absurd c21 (iv102 _ hf0)
  · skip
    rw [hv30]
    exact absurd c29 (iv103 _ hf0)
  · skip
    rw [hv39]
    exact absurd c38 (iv104 _ hf0)
  · skip
    rw [hv49]
    exact absurd c48 (iv105 _ hf0)
  · skip
    rw [hv60]
    exact absurd c59 (iv106 _ hf0)
  · skip
    rw [hv72]
    exact absurd c71 (iv107 _ hf0)
  · skip
    rw [hv85]
    have hF := va_free (wc := [(h0, .inr (8, [.int 0, .int 0, .int 2, .ref h1, .ref h2, .int 0, .int 500, .int 0, .int 0, .int 0, .ref h3]))]) hD hS hA [0] rfl
    refine va_calli (va_runV (As := [.int ((9216 + ((1024 * (1953 - (p0).toInt64)) / 977))).toInt32]) (rest := []) ⟨hx, hb, hml, hown, hts⟩ (k_X6_plain_2 l D κ ε h0 h1 h2 h3 s.heap.size (((9216 + ((1024 * (1953 - (p0).toInt64)) / 977))).toInt32) (0) (0) (2) (0) (500) (0) (0)) (cwV 1 hts gX6_costOf_X6_plain rfl rfl rfl (by decide +kernel) ⟨(Nat.le_of_ble_eq_true rfl), (Nat.le_of_ble_eq_true rfl)⟩) (pre2_V (q0 := 0) (ci := 8) (wc := [(h0, .inr (8, [.int 0, .int 0, .int 2, .ref h1, .ref h2, .int 0, .int 500, .int 0, .int 0, .int 0, .ref h3]))]) hP hD hK hE9 hS hA [0] (by decide) rfl rfl rfl) rfl rfl hl.1 rfl (lv_room (Nat.le_of_ble_eq_true rfl)) dX6_costOf_6 ⟨(Nat.le_of_ble_eq_true rfl), (Nat.le_of_ble_eq_true rfl)⟩) hS (fun q _ h => hF q h) hF (fun r u273 t H locs ht hvm hw hB hz1 hk1 hS => ?_)
    try dsimp only at hw hB
    obtain ⟨hP1, hD1⟩ := hB
    rw [ht] at hP1
    obtain ⟨hP, hD⟩ := post_j (ws' := [(h0, .inr (8, [.int 0, .int 0, .int 2, .ref h1, .ref h2, .int 0, .int 500, .int 0, .int 0, .int 0, .ref h3]))]) (wr := []) (w1 := [(h0, .inr (8, [.int 0, .int 0, .int 2, .ref h1, .ref h2, .int 0, .int 500, .int 0, .int 0, .int 0, .ref h3]))]) hP hD hF [0] rfl [] rfl (by decide) (by decide) hk1 hP1 hD1 [0] (by decide) rfl
    have hP : va_P D vwCl [(h0, .inr (8, [.int 0, .int 0, .int 2, .ref h1, .ref h2, .int 0, .int 500, .int 0, .int 0, .int 0, .ref h3]))] H := hP
    have hD : va_D A [(h0, .inr (8, [.int 0, .int 0, .int 2, .ref h1, .ref h2, .int 0, .int 500, .int 0, .int 0, .int 0, .ref h3]))] := hD
    rw [hw]
    have hP9 := hP.sub (ws' := [(h0, .inr (8, [.int 0, .int 0, .int 2, .ref h1, .ref h2, .int 0, .int 500, .int 0, .int 0, .int 0, .ref h3]))]) [0] rfl
    have hD9 := hD.sub (ws' := [(h0, .inr (8, [.int 0, .int 0, .int 2, .ref h1, .ref h2, .int 0, .int 500, .int 0, .int 0, .int 0, .ref h3]))]) [0] (by decide) rfl
    exact W.iret (v := ((9216 + ((1024 * (1953 - (p0).toInt64)) / 977))).toInt32) hx hb hr (fun t ht hW => ⟨⟨((9216 + ((1024 * (1953 - (p0).toInt64)) / 977))).toInt32, [.int 0, .int 0, .int 2, .ref h1, .ref h2, .int 0, .int 500, .int 0, .int 0, .int 0, .ref h3], rfl, ⟨c73, c74, c75, c76, c77, c78, c79, c80, c81, c82, c83, c84, rfl, rfl⟩, by rw [ht]; exact hP9, hD9⟩, hS.F ht⟩) hS.2.2 dX6_costOf_9
  · skip
    rw [hv99]
    exact absurd (iv108 _ hf1) c97
  · skip
    rw [hv114]
    exact absurd (iv108 _ hf1) c111
  · skip
    rw [hv130]
    exact absurd (iv108 _ hf1) c126
  · skip
    rw [hv147]
    exact absurd (iv108 _ hf1) c142
  · skip
    rw [hv165]
    exact absurd (iv108 _ hf1) c159
  · skip
    rw [hv184]
    exact absurd (iv108 _ hf1) c177
  · skip
    rw [hv204]
    exact absurd (iv108 _ hf1) c196
  · skip
    rw [hv225]
    exact absurd (iv108 _ hf1) c216
  · skip
    rw [hv247]
    exact absurd (iv108 _ hf1) c237
  · skip
    rw [hv269]
    exact absurd (iv108 _ hf1) c259
  · skip
    exact absurd (iv98 _ hf0) c271
  · skip
    exact absurd (iv97 _ hf1) c272

theorem iv109 (x : Int32) (h0 : 0 < (lg_cmp (x).toInt64 976)) : 0 < x := by
  have e0 : (0 : Int32).toInt = 0 := by decide
  have e1 : (976 : Int32).toInt = 976 := by decide
  have f0 : (0 : Int64).toInt = 0 := by decide
  have f1 : (976 : Int64).toInt = 976 := by decide
  simp only [lg_cmp_lt0, lg_cmp_le0, lg_cmp_gt0, lg_cmp_ge0, lg_cmp_eq0] at *
  simp only [Int64.lt_iff_toInt_lt, Int64.le_iff_toInt_le, ← Int64.toInt_inj, Int32.toInt_toInt64, Int32.lt_iff_toInt_lt, Int32.le_iff_toInt_le, ← Int32.toInt_inj, e0, e1, f0, f1] at *
  omega

theorem iv110 (x : Int32) (h0 : ¬ 0 < (lg_cmp (x).toInt64 1953)) : x ≤ 1953 := by
  have e0 : (0 : Int32).toInt = 0 := by decide
  have e1 : (1953 : Int32).toInt = 1953 := by decide
  have f0 : (0 : Int64).toInt = 0 := by decide
  have f1 : (1953 : Int64).toInt = 1953 := by decide
  simp only [lg_cmp_lt0, lg_cmp_le0, lg_cmp_gt0, lg_cmp_ge0, lg_cmp_eq0] at *
  simp only [Int64.lt_iff_toInt_lt, Int64.le_iff_toInt_le, ← Int64.toInt_inj, Int32.toInt_toInt64, Int32.lt_iff_toInt_lt, Int32.le_iff_toInt_le, ← Int32.toInt_inj, e0, e1, f0, f1] at *
  omega

theorem iv111 (x : Int32) (h0 : 488 < x) : 0 < (lg_cmp (x).toInt64 0) := by
  have e0 : (0 : Int32).toInt = 0 := by decide
  have e1 : (488 : Int32).toInt = 488 := by decide
  have f0 : (0 : Int64).toInt = 0 := by decide
  have f1 : (488 : Int64).toInt = 488 := by decide
  simp only [lg_cmp_lt0, lg_cmp_le0, lg_cmp_gt0, lg_cmp_ge0, lg_cmp_eq0] at *
  simp only [Int64.lt_iff_toInt_lt, Int64.le_iff_toInt_le, ← Int64.toInt_inj, Int32.toInt_toInt64, Int32.lt_iff_toInt_lt, Int32.le_iff_toInt_le, ← Int32.toInt_inj, e0, e1, f0, f1] at *
  omega

theorem iv112 (x : Int32) (h0 : ¬ 976 < x) : (lg_cmp (x).toInt64 1000000) < 0 := by
  have e0 : (0 : Int32).toInt = 0 := by decide
  have e1 : (976 : Int32).toInt = 976 := by decide
  have e2 : (1000000 : Int32).toInt = 1000000 := by decide
  have f0 : (0 : Int64).toInt = 0 := by decide
  have f1 : (976 : Int64).toInt = 976 := by decide
  have f2 : (1000000 : Int64).toInt = 1000000 := by decide
  simp only [lg_cmp_lt0, lg_cmp_le0, lg_cmp_gt0, lg_cmp_ge0, lg_cmp_eq0] at *
  simp only [Int64.lt_iff_toInt_lt, Int64.le_iff_toInt_le, ← Int64.toInt_inj, Int32.toInt_toInt64, Int32.lt_iff_toInt_lt, Int32.le_iff_toInt_le, ← Int32.toInt_inj, e0, e1, e2, f0, f1, f2] at *
  omega

theorem iv113 (x : Int32) (h0 : ¬ 976 < x) : ¬ 0 < (lg_cmp (x).toInt64 500000) := by
  have e0 : (0 : Int32).toInt = 0 := by decide
  have e1 : (976 : Int32).toInt = 976 := by decide
  have e2 : (500000 : Int32).toInt = 500000 := by decide
  have f0 : (0 : Int64).toInt = 0 := by decide
  have f1 : (976 : Int64).toInt = 976 := by decide
  have f2 : (500000 : Int64).toInt = 500000 := by decide
  simp only [lg_cmp_lt0, lg_cmp_le0, lg_cmp_gt0, lg_cmp_ge0, lg_cmp_eq0] at *
  simp only [Int64.lt_iff_toInt_lt, Int64.le_iff_toInt_le, ← Int64.toInt_inj, Int32.toInt_toInt64, Int32.lt_iff_toInt_lt, Int32.le_iff_toInt_le, ← Int32.toInt_inj, e0, e1, e2, f0, f1, f2] at *
  omega

theorem iv114 (x : Int32) (h0 : ¬ 976 < x) : ¬ 0 < (lg_cmp (x).toInt64 250000) := by
  have e0 : (0 : Int32).toInt = 0 := by decide
  have e1 : (976 : Int32).toInt = 976 := by decide
  have e2 : (250000 : Int32).toInt = 250000 := by decide
  have f0 : (0 : Int64).toInt = 0 := by decide
  have f1 : (976 : Int64).toInt = 976 := by decide
  have f2 : (250000 : Int64).toInt = 250000 := by decide
  simp only [lg_cmp_lt0, lg_cmp_le0, lg_cmp_gt0, lg_cmp_ge0, lg_cmp_eq0] at *
  simp only [Int64.lt_iff_toInt_lt, Int64.le_iff_toInt_le, ← Int64.toInt_inj, Int32.toInt_toInt64, Int32.lt_iff_toInt_lt, Int32.le_iff_toInt_le, ← Int32.toInt_inj, e0, e1, e2, f0, f1, f2] at *
  omega

theorem iv115 (x : Int32) (h0 : ¬ 976 < x) : ¬ 0 < (lg_cmp (x).toInt64 125000) := by
  have e0 : (0 : Int32).toInt = 0 := by decide
  have e1 : (976 : Int32).toInt = 976 := by decide
  have e2 : (125000 : Int32).toInt = 125000 := by decide
  have f0 : (0 : Int64).toInt = 0 := by decide
  have f1 : (976 : Int64).toInt = 976 := by decide
  have f2 : (125000 : Int64).toInt = 125000 := by decide
  simp only [lg_cmp_lt0, lg_cmp_le0, lg_cmp_gt0, lg_cmp_ge0, lg_cmp_eq0] at *
  simp only [Int64.lt_iff_toInt_lt, Int64.le_iff_toInt_le, ← Int64.toInt_inj, Int32.toInt_toInt64, Int32.lt_iff_toInt_lt, Int32.le_iff_toInt_le, ← Int32.toInt_inj, e0, e1, e2, f0, f1, f2] at *
  omega

theorem iv116 (x : Int32) (h0 : ¬ 976 < x) : ¬ 0 < (lg_cmp (x).toInt64 62500) := by
  have e0 : (0 : Int32).toInt = 0 := by decide
  have e1 : (976 : Int32).toInt = 976 := by decide
  have e2 : (62500 : Int32).toInt = 62500 := by decide
  have f0 : (0 : Int64).toInt = 0 := by decide
  have f1 : (976 : Int64).toInt = 976 := by decide
  have f2 : (62500 : Int64).toInt = 62500 := by decide
  simp only [lg_cmp_lt0, lg_cmp_le0, lg_cmp_gt0, lg_cmp_ge0, lg_cmp_eq0] at *
  simp only [Int64.lt_iff_toInt_lt, Int64.le_iff_toInt_le, ← Int64.toInt_inj, Int32.toInt_toInt64, Int32.lt_iff_toInt_lt, Int32.le_iff_toInt_le, ← Int32.toInt_inj, e0, e1, e2, f0, f1, f2] at *
  omega

theorem iv117 (x : Int32) (h0 : ¬ 976 < x) : ¬ 0 < (lg_cmp (x).toInt64 31250) := by
  have e0 : (0 : Int32).toInt = 0 := by decide
  have e1 : (976 : Int32).toInt = 976 := by decide
  have e2 : (31250 : Int32).toInt = 31250 := by decide
  have f0 : (0 : Int64).toInt = 0 := by decide
  have f1 : (976 : Int64).toInt = 976 := by decide
  have f2 : (31250 : Int64).toInt = 31250 := by decide
  simp only [lg_cmp_lt0, lg_cmp_le0, lg_cmp_gt0, lg_cmp_ge0, lg_cmp_eq0] at *
  simp only [Int64.lt_iff_toInt_lt, Int64.le_iff_toInt_le, ← Int64.toInt_inj, Int32.toInt_toInt64, Int32.lt_iff_toInt_lt, Int32.le_iff_toInt_le, ← Int32.toInt_inj, e0, e1, e2, f0, f1, f2] at *
  omega

theorem iv118 (x : Int32) (h0 : ¬ 976 < x) : ¬ 0 < (lg_cmp (x).toInt64 15625) := by
  have e0 : (0 : Int32).toInt = 0 := by decide
  have e1 : (976 : Int32).toInt = 976 := by decide
  have e2 : (15625 : Int32).toInt = 15625 := by decide
  have f0 : (0 : Int64).toInt = 0 := by decide
  have f1 : (976 : Int64).toInt = 976 := by decide
  have f2 : (15625 : Int64).toInt = 15625 := by decide
  simp only [lg_cmp_lt0, lg_cmp_le0, lg_cmp_gt0, lg_cmp_ge0, lg_cmp_eq0] at *
  simp only [Int64.lt_iff_toInt_lt, Int64.le_iff_toInt_le, ← Int64.toInt_inj, Int32.toInt_toInt64, Int32.lt_iff_toInt_lt, Int32.le_iff_toInt_le, ← Int32.toInt_inj, e0, e1, e2, f0, f1, f2] at *
  omega

theorem iv119 (x : Int32) (h0 : ¬ 976 < x) : ¬ 0 < (lg_cmp (x).toInt64 7812) := by
  have e0 : (0 : Int32).toInt = 0 := by decide
  have e1 : (976 : Int32).toInt = 976 := by decide
  have e2 : (7812 : Int32).toInt = 7812 := by decide
  have f0 : (0 : Int64).toInt = 0 := by decide
  have f1 : (976 : Int64).toInt = 976 := by decide
  have f2 : (7812 : Int64).toInt = 7812 := by decide
  simp only [lg_cmp_lt0, lg_cmp_le0, lg_cmp_gt0, lg_cmp_ge0, lg_cmp_eq0] at *
  simp only [Int64.lt_iff_toInt_lt, Int64.le_iff_toInt_le, ← Int64.toInt_inj, Int32.toInt_toInt64, Int32.lt_iff_toInt_lt, Int32.le_iff_toInt_le, ← Int32.toInt_inj, e0, e1, e2, f0, f1, f2] at *
  omega

theorem iv120 (x : Int32) (h0 : ¬ 976 < x) : ¬ 0 < (lg_cmp (x).toInt64 3906) := by
  have e0 : (0 : Int32).toInt = 0 := by decide
  have e1 : (976 : Int32).toInt = 976 := by decide
  have e2 : (3906 : Int32).toInt = 3906 := by decide
  have f0 : (0 : Int64).toInt = 0 := by decide
  have f1 : (976 : Int64).toInt = 976 := by decide
  have f2 : (3906 : Int64).toInt = 3906 := by decide
  simp only [lg_cmp_lt0, lg_cmp_le0, lg_cmp_gt0, lg_cmp_ge0, lg_cmp_eq0] at *
  simp only [Int64.lt_iff_toInt_lt, Int64.le_iff_toInt_le, ← Int64.toInt_inj, Int32.toInt_toInt64, Int32.lt_iff_toInt_lt, Int32.le_iff_toInt_le, ← Int32.toInt_inj, e0, e1, e2, f0, f1, f2] at *
  omega

theorem iv121 (x : Int32) (h0 : ¬ 976 < x) : ¬ 0 < (lg_cmp (x).toInt64 1953) := by
  have e0 : (0 : Int32).toInt = 0 := by decide
  have e1 : (976 : Int32).toInt = 976 := by decide
  have e2 : (1953 : Int32).toInt = 1953 := by decide
  have f0 : (0 : Int64).toInt = 0 := by decide
  have f1 : (976 : Int64).toInt = 976 := by decide
  have f2 : (1953 : Int64).toInt = 1953 := by decide
  simp only [lg_cmp_lt0, lg_cmp_le0, lg_cmp_gt0, lg_cmp_ge0, lg_cmp_eq0] at *
  simp only [Int64.lt_iff_toInt_lt, Int64.le_iff_toInt_le, ← Int64.toInt_inj, Int32.toInt_toInt64, Int32.lt_iff_toInt_lt, Int32.le_iff_toInt_le, ← Int32.toInt_inj, e0, e1, e2, f0, f1, f2] at *
  omega

theorem iv122 (x : Int32) (h0 : ¬ 976 < x) : ¬ 0 < (lg_cmp (x).toInt64 976) := by
  have e0 : (0 : Int32).toInt = 0 := by decide
  have e1 : (976 : Int32).toInt = 976 := by decide
  have f0 : (0 : Int64).toInt = 0 := by decide
  have f1 : (976 : Int64).toInt = 976 := by decide
  simp only [lg_cmp_lt0, lg_cmp_le0, lg_cmp_gt0, lg_cmp_ge0, lg_cmp_eq0] at *
  simp only [Int64.lt_iff_toInt_lt, Int64.le_iff_toInt_le, ← Int64.toInt_inj, Int32.toInt_toInt64, Int32.lt_iff_toInt_lt, Int32.le_iff_toInt_le, ← Int32.toInt_inj, e0, e1, f0, f1] at *
  omega

theorem iv123 (x : Int32) (h0 : 488 < x) : 0 < (lg_cmp (x).toInt64 488) := by
  have e0 : (0 : Int32).toInt = 0 := by decide
  have e1 : (488 : Int32).toInt = 488 := by decide
  have f0 : (0 : Int64).toInt = 0 := by decide
  have f1 : (488 : Int64).toInt = 488 := by decide
  simp only [lg_cmp_lt0, lg_cmp_le0, lg_cmp_gt0, lg_cmp_ge0, lg_cmp_eq0] at *
  simp only [Int64.lt_iff_toInt_lt, Int64.le_iff_toInt_le, ← Int64.toInt_inj, Int32.toInt_toInt64, Int32.lt_iff_toInt_lt, Int32.le_iff_toInt_le, ← Int32.toInt_inj, e0, e1, f0, f1] at *
  omega

set_option maxHeartbeats 4000000 in
set_option maxRecDepth 100000 in
theorem k_X6_costOf_10 (l : Launch) (D : va_G) (κ ε : Nat → Nat) (h0 h1 h2 h3 : Nat) (sz : Nat) (p0 : Int32) (hf0 : ¬ 976 < p0) (hf1 : 488 < p0) : Met l yX6_costOf wsX6_costOf ({ frames := 1, cells := 0, slots := 0, locals := 26 }) (va_Pc [.ref h0, .int p0] (Pre2 D κ ε [(h0, .inr (8, [.int 0, .int 0, .int 2, .ref h1, .ref h2, .int 0, .int 500, .int 0, .int 0, .int 0, .ref h3]))] sz)) (va_Qi (fun r (u : List Value) => (0 < (lg_cmp (p0).toInt64 0)) ∧ ((lg_cmp (p0).toInt64 1000000) < 0) ∧ (¬ 0 < (lg_cmp (p0).toInt64 500000)) ∧ (¬ 0 < (lg_cmp (p0).toInt64 250000)) ∧ (¬ 0 < (lg_cmp (p0).toInt64 125000)) ∧ (¬ 0 < (lg_cmp (p0).toInt64 62500)) ∧ (¬ 0 < (lg_cmp (p0).toInt64 31250)) ∧ (¬ 0 < (lg_cmp (p0).toInt64 15625)) ∧ (¬ 0 < (lg_cmp (p0).toInt64 7812)) ∧ (¬ 0 < (lg_cmp (p0).toInt64 3906)) ∧ (¬ 0 < (lg_cmp (p0).toInt64 1953)) ∧ (¬ 0 < (lg_cmp (p0).toInt64 976)) ∧ (0 < (lg_cmp (p0).toInt64 488)) ∧ (u[0]? = some (.int 0)) ∧ (r = ((10240 + ((1024 * (976 - (p0).toInt64)) / 488))).toInt32)) (fun u t => va_P D vwCl [(h0, .inr (8, u))] t.heap ∧ va_D (va_A [(h0, .inr (8, [.int 0, .int 0, .int 2, .ref h1, .ref h2, .int 0, .int 500, .int 0, .int 0, .int 0, .ref h3]))] sz) [(h0, .inr (8, u))]) (va_A [(h0, .inr (8, [.int 0, .int 0, .int 2, .ref h1, .ref h2, .int 0, .int 500, .int 0, .int 0, .int 0, .ref h3]))] sz)) 0 0 (va_A [(h0, .inr (8, [.int 0, .int 0, .int 2, .ref h1, .ref h2, .int 0, .int 500, .int 0, .int 0, .int 0, .ref h3]))] sz) := by
  refine Met.ofW (cc := cX6_costOf) (maxL := 2) (ret := (some .int)) (by decide) rfl ?_
  intro p e s m args below meth c s₁ B hml hv
  obtain ⟨rfl, hsz, hP, hK, hD0, hE9⟩ := hv
  have hx := B.exec
  have hb := B.bytes
  have hr := B.returns
  have hts := atoms_spec (ws := wsX6_costOf) B.pre
  have hown : s.vm.findClass RX6 = some m.cls := findClass_of_methodNamed B.named
  have hlocks := B.notSynchronized
  subst hsz
  have hD := hD0.self (sz := s.heap.size)
  generalize hAe : va_A [(h0, .inr (8, [.int 0, .int 0, .int 2, .ref h1, .ref h2, .int 0, .int 500, .int 0, .int 0, .int 0, .ref h3]))] s.heap.size = A at hD hE9 ⊢
  have hE := hE9.1
  have hDc := hE9.2
  have hA : ∀ q : Nat, s.heap.size ≤ q → A q := fun q h => by rw [← hAe]; exact Or.inr h
  have hS : va_S A s.heap s.heap [] := va_S.rf
  have hP : va_P D vwCl [(h0, .inr (8, [.int 0, .int 0, .int 2, .ref h1, .ref h2, .int 0, .int 500, .int 0, .int 0, .int 0, .ref h3]))] s.heap := hP
  have hl := lv_entry [.ref h0, .int p0] (n := 2) (Nat.le_of_ble_eq_true rfl)
  rw [lg_entry_eq]
  generalize (lg_sl [.ref h0, .int p0] ++ List.replicate (2 - (lg_sl [.ref h0, .int p0]).length) Slot.unset).toArray = ls at hl ⊢
  have hl : lv_has ls 2 [(0, .ref h0), (1, .int p0)] := hl
  refine lv_aload_n hx hb dX6_costOf_0 rfl (lv_at hl 0 rfl) ?_
  refine lv_iload_n hx hb dX6_costOf_1 rfl (lv_at hl 1 rfl) ?_
  refine lv_i2l (v := (p0).toInt64) hx hb dX6_costOf_2 rfl ?_
  refine vp_callSi (W.runS (As := [.long (p0).toInt64]) (rest := [.ref h0]) ⟨hx, hb, hml, hown, hts⟩ (k_X6_cost_0 l D κ ε ((p0).toInt64)) (va_cwS 1 hts gX6_costOf_X6_cost rfl rfl rfl (by decide +kernel) ⟨(Nat.le_of_ble_eq_true rfl), (Nat.le_of_ble_eq_true rfl)⟩) (pre0_S (wc := []) hP hK [] rfl) rfl rfl hl.1 rfl (lv_room (Nat.le_of_ble_eq_true rfl)) dX6_costOf_3 ⟨(Nat.le_of_ble_eq_true rfl), (Nat.le_of_ble_eq_true rfl)⟩) (fun r hw => ?_)
  rcases hw with ⟨c1, c2, c3, hv4⟩ | ⟨c5, c6, c7, c8, hv9⟩ | ⟨c10, c11, c12, c13, c14, hv15⟩ | ⟨c16, c17, c18, c19, c20, c21, hv22⟩ | ⟨c23, c24, c25, c26, c27, c28, c29, hv30⟩ | ⟨c31, c32, c33, c34, c35, c36, c37, c38, hv39⟩ | ⟨c40, c41, c42, c43, c44, c45, c46, c47, c48, hv49⟩ | ⟨c50, c51, c52, c53, c54, c55, c56, c57, c58, c59, hv60⟩ | ⟨c61, c62, c63, c64, c65, c66, c67, c68, c69, c70, c71, hv72⟩ | ⟨c73, c74, c75, c76, c77, c78, c79, c80, c81, c82, c83, c84, hv85⟩ | ⟨c86, c87, c88, c89, c90, c91, c92, c93, c94, c95, c96, c97, c98, hv99⟩ | ⟨c100, c101, c102, c103, c104, c105, c106, c107, c108, c109, c110, c111, c112, c113, hv114⟩ | ⟨c115, c116, c117, c118, c119, c120, c121, c122, c123, c124, c125, c126, c127, c128, c129, hv130⟩ | ⟨c131, c132, c133, c134, c135, c136, c137, c138, c139, c140, c141, c142, c143, c144, c145, c146, hv147⟩ | ⟨c148, c149, c150, c151, c152, c153, c154, c155, c156, c157, c158, c159, c160, c161, c162, c163, c164, hv165⟩ | ⟨c166, c167, c168, c169, c170, c171, c172, c173, c174, c175, c176, c177, c178, c179, c180, c181, c182, c183, hv184⟩ | ⟨c185, c186, c187, c188, c189, c190, c191, c192, c193, c194, c195, c196, c197, c198, c199, c200, c201, c202, c203, hv204⟩ | ⟨c205, c206, c207, c208, c209, c210, c211, c212, c213, c214, c215, c216, c217, c218, c219, c220, c221, c222, c223, c224, hv225⟩ | ⟨c226, c227, c228, c229, c230, c231, c232, c233, c234, c235, c236, c237, c238, c239, c240, c241, c242, c243, c244, c245, c246, hv247⟩ | ⟨c248, c249, c250, c251, c252, c253, c254, c255, c256, c257, c258, c259, c260, c261, c262, c263, c264, c265, c266, c267, c268, hv269⟩ | ⟨c270, c271, rfl⟩ | ⟨c272, rfl⟩
  · skip
    rw [hv4]
    exact absurd c3 (iv113 _ hf0)
  · skip
    rw [hv9]
    exact absurd c8 (iv114 _ hf0)
  · skip
    rw [hv15]
    exact absurd c14 (iv115 _ hf0)
  · skip
    rw [hv22]
    exact absurd c21 (iv116 _ hf0)
  · skip
    rw [hv30]
    exact absurd c29 (iv117 _ hf0)
  · skip
    rw [hv39]
    exact absurd c38 (iv118 _ hf0)
  · skip
    rw [hv49]
    exact absurd c48 (iv119 _ hf0)
  · skip
    rw [hv60]
    exact absurd c59 (iv120 _ hf0)
  · skip
    rw [hv72]
    exact absurd c71 (iv121 _ hf0)
  · skip
    rw [hv85]
    exact absurd c84 (iv122 _ hf0)
  · skip
    rw [hv99]
    have hF := va_free (wc := [(h0, .inr (8, [.int 0, .int 0, .int 2, .ref h1, .ref h2, .int 0, .int 500, .int 0, .int 0, .int 0, .ref h3]))]) hD hS hA [0] rfl
    refine va_calli (va_runV (As := [.int ((10240 + ((1024 * (976 - (p0).toInt64)) / 488))).toInt32]) (rest := []) ⟨hx, hb, hml, hown, hts⟩ (k_X6_plain_2 l D κ ε h0 h1 h2 h3 s.heap.size (((10240 + ((1024 * (976 - (p0).toInt64)) / 488))).toInt32) (0) (0) (2) (0) (500) (0) (0)) (cwV 1 hts gX6_costOf_X6_plain rfl rfl rfl (by decide +kernel) ⟨(Nat.le_of_ble_eq_true rfl), (Nat.le_of_ble_eq_true rfl)⟩) (pre2_V (q0 := 0) (ci := 8) (wc := [(h0, .inr (8, [.int 0, .int 0, .int 2, .ref h1, .ref h2, .int 0, .int 500, .int 0, .int 0, .int 0, .ref h3]))]) hP hD hK hE9 hS hA [0] (by decide) rfl rfl rfl) rfl rfl hl.1 rfl (lv_room (Nat.le_of_ble_eq_true rfl)) dX6_costOf_6 ⟨(Nat.le_of_ble_eq_true rfl), (Nat.le_of_ble_eq_true rfl)⟩) hS (fun q _ h => hF q h) hF (fun r u273 t H locs ht hvm hw hB hz1 hk1 hS => ?_)
    try dsimp only at hw hB
    obtain ⟨hP1, hD1⟩ := hB
    rw [ht] at hP1
    obtain ⟨hP, hD⟩ := post_j (ws' := [(h0, .inr (8, [.int 0, .int 0, .int 2, .ref h1, .ref h2, .int 0, .int 500, .int 0, .int 0, .int 0, .ref h3]))]) (wr := []) (w1 := [(h0, .inr (8, [.int 0, .int 0, .int 2, .ref h1, .ref h2, .int 0, .int 500, .int 0, .int 0, .int 0, .ref h3]))]) hP hD hF [0] rfl [] rfl (by decide) (by decide) hk1 hP1 hD1 [0] (by decide) rfl
    have hP : va_P D vwCl [(h0, .inr (8, [.int 0, .int 0, .int 2, .ref h1, .ref h2, .int 0, .int 500, .int 0, .int 0, .int 0, .ref h3]))] H := hP
    have hD : va_D A [(h0, .inr (8, [.int 0, .int 0, .int 2, .ref h1, .ref h2, .int 0, .int 500, .int 0, .int 0, .int 0, .ref h3]))] := hD
    rw [hw]
    have hP9 := hP.sub (ws' := [(h0, .inr (8, [.int 0, .int 0, .int 2, .ref h1, .ref h2, .int 0, .int 500, .int 0, .int 0, .int 0, .ref h3]))]) [0] rfl
    have hD9 := hD.sub (ws' := [(h0, .inr (8, [.int 0, .int 0, .int 2, .ref h1, .ref h2, .int 0, .int 500, .int 0, .int 0, .int 0, .ref h3]))]) [0] (by decide) rfl
    exact W.iret (v := ((10240 + ((1024 * (976 - (p0).toInt64)) / 488))).toInt32) hx hb hr (fun t ht hW => ⟨⟨((10240 + ((1024 * (976 - (p0).toInt64)) / 488))).toInt32, [.int 0, .int 0, .int 2, .ref h1, .ref h2, .int 0, .int 500, .int 0, .int 0, .int 0, .ref h3], rfl, ⟨c86, c87, c88, c89, c90, c91, c92, c93, c94, c95, c96, c97, c98, rfl, rfl⟩, by rw [ht]; exact hP9, hD9⟩, hS.F ht⟩) hS.2.2 dX6_costOf_9
  · skip
    rw [hv114]
    exact absurd (iv123 _ hf1) c112
  · skip
    rw [hv130]
    exact absurd (iv123 _ hf1) c127
  · skip
    rw [hv147]
    exact absurd (iv123 _ hf1) c143
  · skip
    rw [hv165]
    exact absurd (iv123 _ hf1) c160
  · skip
    rw [hv184]
    exact absurd (iv123 _ hf1) c178
  · skip
    rw [hv204]
    exact absurd (iv123 _ hf1) c197
  · skip
    rw [hv225]
    exact absurd (iv123 _ hf1) c217
  · skip
    rw [hv247]
    exact absurd (iv123 _ hf1) c238
  · skip
    rw [hv269]
    exact absurd (iv123 _ hf1) c260
  · skip
    exact absurd (iv112 _ hf0) c271
  · skip
    exact absurd (iv111 _ hf1) c272

theorem iv124 (x : Int32) (h0 : 0 < (lg_cmp (x).toInt64 488)) : 0 < x := by
  have e0 : (0 : Int32).toInt = 0 := by decide
  have e1 : (488 : Int32).toInt = 488 := by decide
  have f0 : (0 : Int64).toInt = 0 := by decide
  have f1 : (488 : Int64).toInt = 488 := by decide
  simp only [lg_cmp_lt0, lg_cmp_le0, lg_cmp_gt0, lg_cmp_ge0, lg_cmp_eq0] at *
  simp only [Int64.lt_iff_toInt_lt, Int64.le_iff_toInt_le, ← Int64.toInt_inj, Int32.toInt_toInt64, Int32.lt_iff_toInt_lt, Int32.le_iff_toInt_le, ← Int32.toInt_inj, e0, e1, f0, f1] at *
  omega

theorem iv125 (x : Int32) (h0 : ¬ 0 < (lg_cmp (x).toInt64 976)) : x ≤ 976 := by
  have e0 : (0 : Int32).toInt = 0 := by decide
  have e1 : (976 : Int32).toInt = 976 := by decide
  have f0 : (0 : Int64).toInt = 0 := by decide
  have f1 : (976 : Int64).toInt = 976 := by decide
  simp only [lg_cmp_lt0, lg_cmp_le0, lg_cmp_gt0, lg_cmp_ge0, lg_cmp_eq0] at *
  simp only [Int64.lt_iff_toInt_lt, Int64.le_iff_toInt_le, ← Int64.toInt_inj, Int32.toInt_toInt64, Int32.lt_iff_toInt_lt, Int32.le_iff_toInt_le, ← Int32.toInt_inj, e0, e1, f0, f1] at *
  omega

theorem iv126 (x : Int32) (h0 : 244 < x) : 0 < (lg_cmp (x).toInt64 0) := by
  have e0 : (0 : Int32).toInt = 0 := by decide
  have e1 : (244 : Int32).toInt = 244 := by decide
  have f0 : (0 : Int64).toInt = 0 := by decide
  have f1 : (244 : Int64).toInt = 244 := by decide
  simp only [lg_cmp_lt0, lg_cmp_le0, lg_cmp_gt0, lg_cmp_ge0, lg_cmp_eq0] at *
  simp only [Int64.lt_iff_toInt_lt, Int64.le_iff_toInt_le, ← Int64.toInt_inj, Int32.toInt_toInt64, Int32.lt_iff_toInt_lt, Int32.le_iff_toInt_le, ← Int32.toInt_inj, e0, e1, f0, f1] at *
  omega

theorem iv127 (x : Int32) (h0 : ¬ 488 < x) : (lg_cmp (x).toInt64 1000000) < 0 := by
  have e0 : (0 : Int32).toInt = 0 := by decide
  have e1 : (488 : Int32).toInt = 488 := by decide
  have e2 : (1000000 : Int32).toInt = 1000000 := by decide
  have f0 : (0 : Int64).toInt = 0 := by decide
  have f1 : (488 : Int64).toInt = 488 := by decide
  have f2 : (1000000 : Int64).toInt = 1000000 := by decide
  simp only [lg_cmp_lt0, lg_cmp_le0, lg_cmp_gt0, lg_cmp_ge0, lg_cmp_eq0] at *
  simp only [Int64.lt_iff_toInt_lt, Int64.le_iff_toInt_le, ← Int64.toInt_inj, Int32.toInt_toInt64, Int32.lt_iff_toInt_lt, Int32.le_iff_toInt_le, ← Int32.toInt_inj, e0, e1, e2, f0, f1, f2] at *
  omega

theorem iv128 (x : Int32) (h0 : ¬ 488 < x) : ¬ 0 < (lg_cmp (x).toInt64 500000) := by
  have e0 : (0 : Int32).toInt = 0 := by decide
  have e1 : (488 : Int32).toInt = 488 := by decide
  have e2 : (500000 : Int32).toInt = 500000 := by decide
  have f0 : (0 : Int64).toInt = 0 := by decide
  have f1 : (488 : Int64).toInt = 488 := by decide
  have f2 : (500000 : Int64).toInt = 500000 := by decide
  simp only [lg_cmp_lt0, lg_cmp_le0, lg_cmp_gt0, lg_cmp_ge0, lg_cmp_eq0] at *
  simp only [Int64.lt_iff_toInt_lt, Int64.le_iff_toInt_le, ← Int64.toInt_inj, Int32.toInt_toInt64, Int32.lt_iff_toInt_lt, Int32.le_iff_toInt_le, ← Int32.toInt_inj, e0, e1, e2, f0, f1, f2] at *
  omega

theorem iv129 (x : Int32) (h0 : ¬ 488 < x) : ¬ 0 < (lg_cmp (x).toInt64 250000) := by
  have e0 : (0 : Int32).toInt = 0 := by decide
  have e1 : (488 : Int32).toInt = 488 := by decide
  have e2 : (250000 : Int32).toInt = 250000 := by decide
  have f0 : (0 : Int64).toInt = 0 := by decide
  have f1 : (488 : Int64).toInt = 488 := by decide
  have f2 : (250000 : Int64).toInt = 250000 := by decide
  simp only [lg_cmp_lt0, lg_cmp_le0, lg_cmp_gt0, lg_cmp_ge0, lg_cmp_eq0] at *
  simp only [Int64.lt_iff_toInt_lt, Int64.le_iff_toInt_le, ← Int64.toInt_inj, Int32.toInt_toInt64, Int32.lt_iff_toInt_lt, Int32.le_iff_toInt_le, ← Int32.toInt_inj, e0, e1, e2, f0, f1, f2] at *
  omega

theorem iv130 (x : Int32) (h0 : ¬ 488 < x) : ¬ 0 < (lg_cmp (x).toInt64 125000) := by
  have e0 : (0 : Int32).toInt = 0 := by decide
  have e1 : (488 : Int32).toInt = 488 := by decide
  have e2 : (125000 : Int32).toInt = 125000 := by decide
  have f0 : (0 : Int64).toInt = 0 := by decide
  have f1 : (488 : Int64).toInt = 488 := by decide
  have f2 : (125000 : Int64).toInt = 125000 := by decide
  simp only [lg_cmp_lt0, lg_cmp_le0, lg_cmp_gt0, lg_cmp_ge0, lg_cmp_eq0] at *
  simp only [Int64.lt_iff_toInt_lt, Int64.le_iff_toInt_le, ← Int64.toInt_inj, Int32.toInt_toInt64, Int32.lt_iff_toInt_lt, Int32.le_iff_toInt_le, ← Int32.toInt_inj, e0, e1, e2, f0, f1, f2] at *
  omega

theorem iv131 (x : Int32) (h0 : ¬ 488 < x) : ¬ 0 < (lg_cmp (x).toInt64 62500) := by
  have e0 : (0 : Int32).toInt = 0 := by decide
  have e1 : (488 : Int32).toInt = 488 := by decide
  have e2 : (62500 : Int32).toInt = 62500 := by decide
  have f0 : (0 : Int64).toInt = 0 := by decide
  have f1 : (488 : Int64).toInt = 488 := by decide
  have f2 : (62500 : Int64).toInt = 62500 := by decide
  simp only [lg_cmp_lt0, lg_cmp_le0, lg_cmp_gt0, lg_cmp_ge0, lg_cmp_eq0] at *
  simp only [Int64.lt_iff_toInt_lt, Int64.le_iff_toInt_le, ← Int64.toInt_inj, Int32.toInt_toInt64, Int32.lt_iff_toInt_lt, Int32.le_iff_toInt_le, ← Int32.toInt_inj, e0, e1, e2, f0, f1, f2] at *
  omega

theorem iv132 (x : Int32) (h0 : ¬ 488 < x) : ¬ 0 < (lg_cmp (x).toInt64 31250) := by
  have e0 : (0 : Int32).toInt = 0 := by decide
  have e1 : (488 : Int32).toInt = 488 := by decide
  have e2 : (31250 : Int32).toInt = 31250 := by decide
  have f0 : (0 : Int64).toInt = 0 := by decide
  have f1 : (488 : Int64).toInt = 488 := by decide
  have f2 : (31250 : Int64).toInt = 31250 := by decide
  simp only [lg_cmp_lt0, lg_cmp_le0, lg_cmp_gt0, lg_cmp_ge0, lg_cmp_eq0] at *
  simp only [Int64.lt_iff_toInt_lt, Int64.le_iff_toInt_le, ← Int64.toInt_inj, Int32.toInt_toInt64, Int32.lt_iff_toInt_lt, Int32.le_iff_toInt_le, ← Int32.toInt_inj, e0, e1, e2, f0, f1, f2] at *
  omega

theorem iv133 (x : Int32) (h0 : ¬ 488 < x) : ¬ 0 < (lg_cmp (x).toInt64 15625) := by
  have e0 : (0 : Int32).toInt = 0 := by decide
  have e1 : (488 : Int32).toInt = 488 := by decide
  have e2 : (15625 : Int32).toInt = 15625 := by decide
  have f0 : (0 : Int64).toInt = 0 := by decide
  have f1 : (488 : Int64).toInt = 488 := by decide
  have f2 : (15625 : Int64).toInt = 15625 := by decide
  simp only [lg_cmp_lt0, lg_cmp_le0, lg_cmp_gt0, lg_cmp_ge0, lg_cmp_eq0] at *
  simp only [Int64.lt_iff_toInt_lt, Int64.le_iff_toInt_le, ← Int64.toInt_inj, Int32.toInt_toInt64, Int32.lt_iff_toInt_lt, Int32.le_iff_toInt_le, ← Int32.toInt_inj, e0, e1, e2, f0, f1, f2] at *
  omega

theorem iv134 (x : Int32) (h0 : ¬ 488 < x) : ¬ 0 < (lg_cmp (x).toInt64 7812) := by
  have e0 : (0 : Int32).toInt = 0 := by decide
  have e1 : (488 : Int32).toInt = 488 := by decide
  have e2 : (7812 : Int32).toInt = 7812 := by decide
  have f0 : (0 : Int64).toInt = 0 := by decide
  have f1 : (488 : Int64).toInt = 488 := by decide
  have f2 : (7812 : Int64).toInt = 7812 := by decide
  simp only [lg_cmp_lt0, lg_cmp_le0, lg_cmp_gt0, lg_cmp_ge0, lg_cmp_eq0] at *
  simp only [Int64.lt_iff_toInt_lt, Int64.le_iff_toInt_le, ← Int64.toInt_inj, Int32.toInt_toInt64, Int32.lt_iff_toInt_lt, Int32.le_iff_toInt_le, ← Int32.toInt_inj, e0, e1, e2, f0, f1, f2] at *
  omega

theorem iv135 (x : Int32) (h0 : ¬ 488 < x) : ¬ 0 < (lg_cmp (x).toInt64 3906) := by
  have e0 : (0 : Int32).toInt = 0 := by decide
  have e1 : (488 : Int32).toInt = 488 := by decide
  have e2 : (3906 : Int32).toInt = 3906 := by decide
  have f0 : (0 : Int64).toInt = 0 := by decide
  have f1 : (488 : Int64).toInt = 488 := by decide
  have f2 : (3906 : Int64).toInt = 3906 := by decide
  simp only [lg_cmp_lt0, lg_cmp_le0, lg_cmp_gt0, lg_cmp_ge0, lg_cmp_eq0] at *
  simp only [Int64.lt_iff_toInt_lt, Int64.le_iff_toInt_le, ← Int64.toInt_inj, Int32.toInt_toInt64, Int32.lt_iff_toInt_lt, Int32.le_iff_toInt_le, ← Int32.toInt_inj, e0, e1, e2, f0, f1, f2] at *
  omega

theorem iv136 (x : Int32) (h0 : ¬ 488 < x) : ¬ 0 < (lg_cmp (x).toInt64 1953) := by
  have e0 : (0 : Int32).toInt = 0 := by decide
  have e1 : (488 : Int32).toInt = 488 := by decide
  have e2 : (1953 : Int32).toInt = 1953 := by decide
  have f0 : (0 : Int64).toInt = 0 := by decide
  have f1 : (488 : Int64).toInt = 488 := by decide
  have f2 : (1953 : Int64).toInt = 1953 := by decide
  simp only [lg_cmp_lt0, lg_cmp_le0, lg_cmp_gt0, lg_cmp_ge0, lg_cmp_eq0] at *
  simp only [Int64.lt_iff_toInt_lt, Int64.le_iff_toInt_le, ← Int64.toInt_inj, Int32.toInt_toInt64, Int32.lt_iff_toInt_lt, Int32.le_iff_toInt_le, ← Int32.toInt_inj, e0, e1, e2, f0, f1, f2] at *
  omega

theorem iv137 (x : Int32) (h0 : ¬ 488 < x) : ¬ 0 < (lg_cmp (x).toInt64 976) := by
  have e0 : (0 : Int32).toInt = 0 := by decide
  have e1 : (488 : Int32).toInt = 488 := by decide
  have e2 : (976 : Int32).toInt = 976 := by decide
  have f0 : (0 : Int64).toInt = 0 := by decide
  have f1 : (488 : Int64).toInt = 488 := by decide
  have f2 : (976 : Int64).toInt = 976 := by decide
  simp only [lg_cmp_lt0, lg_cmp_le0, lg_cmp_gt0, lg_cmp_ge0, lg_cmp_eq0] at *
  simp only [Int64.lt_iff_toInt_lt, Int64.le_iff_toInt_le, ← Int64.toInt_inj, Int32.toInt_toInt64, Int32.lt_iff_toInt_lt, Int32.le_iff_toInt_le, ← Int32.toInt_inj, e0, e1, e2, f0, f1, f2] at *
  omega

theorem iv138 (x : Int32) (h0 : ¬ 488 < x) : ¬ 0 < (lg_cmp (x).toInt64 488) := by
  have e0 : (0 : Int32).toInt = 0 := by decide
  have e1 : (488 : Int32).toInt = 488 := by decide
  have f0 : (0 : Int64).toInt = 0 := by decide
  have f1 : (488 : Int64).toInt = 488 := by decide
  simp only [lg_cmp_lt0, lg_cmp_le0, lg_cmp_gt0, lg_cmp_ge0, lg_cmp_eq0] at *
  simp only [Int64.lt_iff_toInt_lt, Int64.le_iff_toInt_le, ← Int64.toInt_inj, Int32.toInt_toInt64, Int32.lt_iff_toInt_lt, Int32.le_iff_toInt_le, ← Int32.toInt_inj, e0, e1, f0, f1] at *
  omega

theorem iv139 (x : Int32) (h0 : 244 < x) : 0 < (lg_cmp (x).toInt64 244) := by
  have e0 : (0 : Int32).toInt = 0 := by decide
  have e1 : (244 : Int32).toInt = 244 := by decide
  have f0 : (0 : Int64).toInt = 0 := by decide
  have f1 : (244 : Int64).toInt = 244 := by decide
  simp only [lg_cmp_lt0, lg_cmp_le0, lg_cmp_gt0, lg_cmp_ge0, lg_cmp_eq0] at *
  simp only [Int64.lt_iff_toInt_lt, Int64.le_iff_toInt_le, ← Int64.toInt_inj, Int32.toInt_toInt64, Int32.lt_iff_toInt_lt, Int32.le_iff_toInt_le, ← Int32.toInt_inj, e0, e1, f0, f1] at *
  omega

set_option maxHeartbeats 4000000 in
set_option maxRecDepth 100000 in
theorem k_X6_costOf_11 (l : Launch) (D : va_G) (κ ε : Nat → Nat) (h0 h1 h2 h3 : Nat) (sz : Nat) (p0 : Int32) (hf0 : ¬ 488 < p0) (hf1 : 244 < p0) : Met l yX6_costOf wsX6_costOf ({ frames := 1, cells := 0, slots := 0, locals := 26 }) (va_Pc [.ref h0, .int p0] (Pre2 D κ ε [(h0, .inr (8, [.int 0, .int 0, .int 2, .ref h1, .ref h2, .int 0, .int 500, .int 0, .int 0, .int 0, .ref h3]))] sz)) (va_Qi (fun r (u : List Value) => (0 < (lg_cmp (p0).toInt64 0)) ∧ ((lg_cmp (p0).toInt64 1000000) < 0) ∧ (¬ 0 < (lg_cmp (p0).toInt64 500000)) ∧ (¬ 0 < (lg_cmp (p0).toInt64 250000)) ∧ (¬ 0 < (lg_cmp (p0).toInt64 125000)) ∧ (¬ 0 < (lg_cmp (p0).toInt64 62500)) ∧ (¬ 0 < (lg_cmp (p0).toInt64 31250)) ∧ (¬ 0 < (lg_cmp (p0).toInt64 15625)) ∧ (¬ 0 < (lg_cmp (p0).toInt64 7812)) ∧ (¬ 0 < (lg_cmp (p0).toInt64 3906)) ∧ (¬ 0 < (lg_cmp (p0).toInt64 1953)) ∧ (¬ 0 < (lg_cmp (p0).toInt64 976)) ∧ (¬ 0 < (lg_cmp (p0).toInt64 488)) ∧ (0 < (lg_cmp (p0).toInt64 244)) ∧ (u[0]? = some (.int 0)) ∧ (r = ((11264 + ((1024 * (488 - (p0).toInt64)) / 244))).toInt32)) (fun u t => va_P D vwCl [(h0, .inr (8, u))] t.heap ∧ va_D (va_A [(h0, .inr (8, [.int 0, .int 0, .int 2, .ref h1, .ref h2, .int 0, .int 500, .int 0, .int 0, .int 0, .ref h3]))] sz) [(h0, .inr (8, u))]) (va_A [(h0, .inr (8, [.int 0, .int 0, .int 2, .ref h1, .ref h2, .int 0, .int 500, .int 0, .int 0, .int 0, .ref h3]))] sz)) 0 0 (va_A [(h0, .inr (8, [.int 0, .int 0, .int 2, .ref h1, .ref h2, .int 0, .int 500, .int 0, .int 0, .int 0, .ref h3]))] sz) := by
  refine Met.ofW (cc := cX6_costOf) (maxL := 2) (ret := (some .int)) (by decide) rfl ?_
  intro p e s m args below meth c s₁ B hml hv
  obtain ⟨rfl, hsz, hP, hK, hD0, hE9⟩ := hv
  have hx := B.exec
  have hb := B.bytes
  have hr := B.returns
  have hts := atoms_spec (ws := wsX6_costOf) B.pre
  have hown : s.vm.findClass RX6 = some m.cls := findClass_of_methodNamed B.named
  have hlocks := B.notSynchronized
  subst hsz
  have hD := hD0.self (sz := s.heap.size)
  generalize hAe : va_A [(h0, .inr (8, [.int 0, .int 0, .int 2, .ref h1, .ref h2, .int 0, .int 500, .int 0, .int 0, .int 0, .ref h3]))] s.heap.size = A at hD hE9 ⊢
  have hE := hE9.1
  have hDc := hE9.2
  have hA : ∀ q : Nat, s.heap.size ≤ q → A q := fun q h => by rw [← hAe]; exact Or.inr h
  have hS : va_S A s.heap s.heap [] := va_S.rf
  have hP : va_P D vwCl [(h0, .inr (8, [.int 0, .int 0, .int 2, .ref h1, .ref h2, .int 0, .int 500, .int 0, .int 0, .int 0, .ref h3]))] s.heap := hP
  have hl := lv_entry [.ref h0, .int p0] (n := 2) (Nat.le_of_ble_eq_true rfl)
  rw [lg_entry_eq]
  generalize (lg_sl [.ref h0, .int p0] ++ List.replicate (2 - (lg_sl [.ref h0, .int p0]).length) Slot.unset).toArray = ls at hl ⊢
  have hl : lv_has ls 2 [(0, .ref h0), (1, .int p0)] := hl
  refine lv_aload_n hx hb dX6_costOf_0 rfl (lv_at hl 0 rfl) ?_
  refine lv_iload_n hx hb dX6_costOf_1 rfl (lv_at hl 1 rfl) ?_
  refine lv_i2l (v := (p0).toInt64) hx hb dX6_costOf_2 rfl ?_
  refine vp_callSi (W.runS (As := [.long (p0).toInt64]) (rest := [.ref h0]) ⟨hx, hb, hml, hown, hts⟩ (k_X6_cost_0 l D κ ε ((p0).toInt64)) (va_cwS 1 hts gX6_costOf_X6_cost rfl rfl rfl (by decide +kernel) ⟨(Nat.le_of_ble_eq_true rfl), (Nat.le_of_ble_eq_true rfl)⟩) (pre0_S (wc := []) hP hK [] rfl) rfl rfl hl.1 rfl (lv_room (Nat.le_of_ble_eq_true rfl)) dX6_costOf_3 ⟨(Nat.le_of_ble_eq_true rfl), (Nat.le_of_ble_eq_true rfl)⟩) (fun r hw => ?_)
  rcases hw with ⟨c1, c2, c3, hv4⟩ | ⟨c5, c6, c7, c8, hv9⟩ | ⟨c10, c11, c12, c13, c14, hv15⟩ | ⟨c16, c17, c18, c19, c20, c21, hv22⟩ | ⟨c23, c24, c25, c26, c27, c28, c29, hv30⟩ | ⟨c31, c32, c33, c34, c35, c36, c37, c38, hv39⟩ | ⟨c40, c41, c42, c43, c44, c45, c46, c47, c48, hv49⟩ | ⟨c50, c51, c52, c53, c54, c55, c56, c57, c58, c59, hv60⟩ | ⟨c61, c62, c63, c64, c65, c66, c67, c68, c69, c70, c71, hv72⟩ | ⟨c73, c74, c75, c76, c77, c78, c79, c80, c81, c82, c83, c84, hv85⟩ | ⟨c86, c87, c88, c89, c90, c91, c92, c93, c94, c95, c96, c97, c98, hv99⟩ | ⟨c100, c101, c102, c103, c104, c105, c106, c107, c108, c109, c110, c111, c112, c113, hv114⟩ | ⟨c115, c116, c117, c118, c119, c120, c121, c122, c123, c124, c125, c126, c127, c128, c129, hv130⟩ | ⟨c131, c132, c133, c134, c135, c136, c137, c138, c139, c140, c141, c142, c143, c144, c145, c146, hv147⟩ | ⟨c148, c149, c150, c151, c152, c153, c154, c155, c156, c157, c158, c159, c160, c161, c162, c163, c164, hv165⟩ | ⟨c166, c167, c168, c169, c170, c171, c172, c173, c174, c175, c176, c177, c178, c179, c180, c181, c182, c183, hv184⟩ | ⟨c185, c186, c187, c188, c189, c190, c191, c192, c193, c194, c195, c196, c197, c198, c199, c200, c201, c202, c203, hv204⟩ | ⟨c205, c206, c207, c208, c209, c210, c211, c212, c213, c214, c215, c216, c217, c218, c219, c220, c221, c222, c223, c224, hv225⟩ | ⟨c226, c227, c228, c229, c230, c231, c232, c233, c234, c235, c236, c237, c238, c239, c240, c241, c242, c243, c244, c245, c246, hv247⟩ | ⟨c248, c249, c250, c251, c252, c253, c254, c255, c256, c257, c258, c259, c260, c261, c262, c263, c264, c265, c266, c267, c268, hv269⟩ | ⟨c270, c271, rfl⟩ | ⟨c272, rfl⟩
  · skip
    rw [hv4]
    exact absurd c3 (iv128 _ hf0)
  · skip
    rw [hv9]
    exact absurd c8 (iv129 _ hf0)
  · skip
    rw [hv15]
    exact absurd c14 (iv130 _ hf0)
  · skip
    rw [hv22]
    exact absurd c21 (iv131 _ hf0)
  · skip
    rw [hv30]
    exact absurd c29 (iv132 _ hf0)
  · skip
    rw [hv39]
    exact absurd c38 (iv133 _ hf0)
  · skip
    rw [hv49]
    exact absurd c48 (iv134 _ hf0)
  · skip
    rw [hv60]
    exact absurd c59 (iv135 _ hf0)
  · skip
    rw [hv72]
    exact absurd c71 (iv136 _ hf0)
  · skip
    rw [hv85]
    exact absurd c84 (iv137 _ hf0)
  · skip
    rw [hv99]
    exact absurd c98 (iv138 _ hf0)
  · skip
    rw [hv114]
    have hF := va_free (wc := [(h0, .inr (8, [.int 0, .int 0, .int 2, .ref h1, .ref h2, .int 0, .int 500, .int 0, .int 0, .int 0, .ref h3]))]) hD hS hA [0] rfl
    refine va_calli (va_runV (As := [.int ((11264 + ((1024 * (488 - (p0).toInt64)) / 244))).toInt32]) (rest := []) ⟨hx, hb, hml, hown, hts⟩ (k_X6_plain_2 l D κ ε h0 h1 h2 h3 s.heap.size (((11264 + ((1024 * (488 - (p0).toInt64)) / 244))).toInt32) (0) (0) (2) (0) (500) (0) (0)) (cwV 1 hts gX6_costOf_X6_plain rfl rfl rfl (by decide +kernel) ⟨(Nat.le_of_ble_eq_true rfl), (Nat.le_of_ble_eq_true rfl)⟩) (pre2_V (q0 := 0) (ci := 8) (wc := [(h0, .inr (8, [.int 0, .int 0, .int 2, .ref h1, .ref h2, .int 0, .int 500, .int 0, .int 0, .int 0, .ref h3]))]) hP hD hK hE9 hS hA [0] (by decide) rfl rfl rfl) rfl rfl hl.1 rfl (lv_room (Nat.le_of_ble_eq_true rfl)) dX6_costOf_6 ⟨(Nat.le_of_ble_eq_true rfl), (Nat.le_of_ble_eq_true rfl)⟩) hS (fun q _ h => hF q h) hF (fun r u273 t H locs ht hvm hw hB hz1 hk1 hS => ?_)
    try dsimp only at hw hB
    obtain ⟨hP1, hD1⟩ := hB
    rw [ht] at hP1
    obtain ⟨hP, hD⟩ := post_j (ws' := [(h0, .inr (8, [.int 0, .int 0, .int 2, .ref h1, .ref h2, .int 0, .int 500, .int 0, .int 0, .int 0, .ref h3]))]) (wr := []) (w1 := [(h0, .inr (8, [.int 0, .int 0, .int 2, .ref h1, .ref h2, .int 0, .int 500, .int 0, .int 0, .int 0, .ref h3]))]) hP hD hF [0] rfl [] rfl (by decide) (by decide) hk1 hP1 hD1 [0] (by decide) rfl
    have hP : va_P D vwCl [(h0, .inr (8, [.int 0, .int 0, .int 2, .ref h1, .ref h2, .int 0, .int 500, .int 0, .int 0, .int 0, .ref h3]))] H := hP
    have hD : va_D A [(h0, .inr (8, [.int 0, .int 0, .int 2, .ref h1, .ref h2, .int 0, .int 500, .int 0, .int 0, .int 0, .ref h3]))] := hD
    rw [hw]
    have hP9 := hP.sub (ws' := [(h0, .inr (8, [.int 0, .int 0, .int 2, .ref h1, .ref h2, .int 0, .int 500, .int 0, .int 0, .int 0, .ref h3]))]) [0] rfl
    have hD9 := hD.sub (ws' := [(h0, .inr (8, [.int 0, .int 0, .int 2, .ref h1, .ref h2, .int 0, .int 500, .int 0, .int 0, .int 0, .ref h3]))]) [0] (by decide) rfl
    exact W.iret (v := ((11264 + ((1024 * (488 - (p0).toInt64)) / 244))).toInt32) hx hb hr (fun t ht hW => ⟨⟨((11264 + ((1024 * (488 - (p0).toInt64)) / 244))).toInt32, [.int 0, .int 0, .int 2, .ref h1, .ref h2, .int 0, .int 500, .int 0, .int 0, .int 0, .ref h3], rfl, ⟨c100, c101, c102, c103, c104, c105, c106, c107, c108, c109, c110, c111, c112, c113, rfl, rfl⟩, by rw [ht]; exact hP9, hD9⟩, hS.F ht⟩) hS.2.2 dX6_costOf_9
  · skip
    rw [hv130]
    exact absurd (iv139 _ hf1) c128
  · skip
    rw [hv147]
    exact absurd (iv139 _ hf1) c144
  · skip
    rw [hv165]
    exact absurd (iv139 _ hf1) c161
  · skip
    rw [hv184]
    exact absurd (iv139 _ hf1) c179
  · skip
    rw [hv204]
    exact absurd (iv139 _ hf1) c198
  · skip
    rw [hv225]
    exact absurd (iv139 _ hf1) c218
  · skip
    rw [hv247]
    exact absurd (iv139 _ hf1) c239
  · skip
    rw [hv269]
    exact absurd (iv139 _ hf1) c261
  · skip
    exact absurd (iv127 _ hf0) c271
  · skip
    exact absurd (iv126 _ hf1) c272

theorem iv140 (x : Int32) (h0 : 0 < (lg_cmp (x).toInt64 244)) : 0 < x := by
  have e0 : (0 : Int32).toInt = 0 := by decide
  have e1 : (244 : Int32).toInt = 244 := by decide
  have f0 : (0 : Int64).toInt = 0 := by decide
  have f1 : (244 : Int64).toInt = 244 := by decide
  simp only [lg_cmp_lt0, lg_cmp_le0, lg_cmp_gt0, lg_cmp_ge0, lg_cmp_eq0] at *
  simp only [Int64.lt_iff_toInt_lt, Int64.le_iff_toInt_le, ← Int64.toInt_inj, Int32.toInt_toInt64, Int32.lt_iff_toInt_lt, Int32.le_iff_toInt_le, ← Int32.toInt_inj, e0, e1, f0, f1] at *
  omega

theorem iv141 (x : Int32) (h0 : ¬ 0 < (lg_cmp (x).toInt64 488)) : x ≤ 488 := by
  have e0 : (0 : Int32).toInt = 0 := by decide
  have e1 : (488 : Int32).toInt = 488 := by decide
  have f0 : (0 : Int64).toInt = 0 := by decide
  have f1 : (488 : Int64).toInt = 488 := by decide
  simp only [lg_cmp_lt0, lg_cmp_le0, lg_cmp_gt0, lg_cmp_ge0, lg_cmp_eq0] at *
  simp only [Int64.lt_iff_toInt_lt, Int64.le_iff_toInt_le, ← Int64.toInt_inj, Int32.toInt_toInt64, Int32.lt_iff_toInt_lt, Int32.le_iff_toInt_le, ← Int32.toInt_inj, e0, e1, f0, f1] at *
  omega

theorem iv142 (x : Int32) (h0 : 122 < x) : 0 < (lg_cmp (x).toInt64 0) := by
  have e0 : (0 : Int32).toInt = 0 := by decide
  have e1 : (122 : Int32).toInt = 122 := by decide
  have f0 : (0 : Int64).toInt = 0 := by decide
  have f1 : (122 : Int64).toInt = 122 := by decide
  simp only [lg_cmp_lt0, lg_cmp_le0, lg_cmp_gt0, lg_cmp_ge0, lg_cmp_eq0] at *
  simp only [Int64.lt_iff_toInt_lt, Int64.le_iff_toInt_le, ← Int64.toInt_inj, Int32.toInt_toInt64, Int32.lt_iff_toInt_lt, Int32.le_iff_toInt_le, ← Int32.toInt_inj, e0, e1, f0, f1] at *
  omega

theorem iv143 (x : Int32) (h0 : ¬ 244 < x) : (lg_cmp (x).toInt64 1000000) < 0 := by
  have e0 : (0 : Int32).toInt = 0 := by decide
  have e1 : (244 : Int32).toInt = 244 := by decide
  have e2 : (1000000 : Int32).toInt = 1000000 := by decide
  have f0 : (0 : Int64).toInt = 0 := by decide
  have f1 : (244 : Int64).toInt = 244 := by decide
  have f2 : (1000000 : Int64).toInt = 1000000 := by decide
  simp only [lg_cmp_lt0, lg_cmp_le0, lg_cmp_gt0, lg_cmp_ge0, lg_cmp_eq0] at *
  simp only [Int64.lt_iff_toInt_lt, Int64.le_iff_toInt_le, ← Int64.toInt_inj, Int32.toInt_toInt64, Int32.lt_iff_toInt_lt, Int32.le_iff_toInt_le, ← Int32.toInt_inj, e0, e1, e2, f0, f1, f2] at *
  omega

theorem iv144 (x : Int32) (h0 : ¬ 244 < x) : ¬ 0 < (lg_cmp (x).toInt64 500000) := by
  have e0 : (0 : Int32).toInt = 0 := by decide
  have e1 : (244 : Int32).toInt = 244 := by decide
  have e2 : (500000 : Int32).toInt = 500000 := by decide
  have f0 : (0 : Int64).toInt = 0 := by decide
  have f1 : (244 : Int64).toInt = 244 := by decide
  have f2 : (500000 : Int64).toInt = 500000 := by decide
  simp only [lg_cmp_lt0, lg_cmp_le0, lg_cmp_gt0, lg_cmp_ge0, lg_cmp_eq0] at *
  simp only [Int64.lt_iff_toInt_lt, Int64.le_iff_toInt_le, ← Int64.toInt_inj, Int32.toInt_toInt64, Int32.lt_iff_toInt_lt, Int32.le_iff_toInt_le, ← Int32.toInt_inj, e0, e1, e2, f0, f1, f2] at *
  omega

theorem iv145 (x : Int32) (h0 : ¬ 244 < x) : ¬ 0 < (lg_cmp (x).toInt64 250000) := by
  have e0 : (0 : Int32).toInt = 0 := by decide
  have e1 : (244 : Int32).toInt = 244 := by decide
  have e2 : (250000 : Int32).toInt = 250000 := by decide
  have f0 : (0 : Int64).toInt = 0 := by decide
  have f1 : (244 : Int64).toInt = 244 := by decide
  have f2 : (250000 : Int64).toInt = 250000 := by decide
  simp only [lg_cmp_lt0, lg_cmp_le0, lg_cmp_gt0, lg_cmp_ge0, lg_cmp_eq0] at *
  simp only [Int64.lt_iff_toInt_lt, Int64.le_iff_toInt_le, ← Int64.toInt_inj, Int32.toInt_toInt64, Int32.lt_iff_toInt_lt, Int32.le_iff_toInt_le, ← Int32.toInt_inj, e0, e1, e2, f0, f1, f2] at *
  omega

theorem iv146 (x : Int32) (h0 : ¬ 244 < x) : ¬ 0 < (lg_cmp (x).toInt64 125000) := by
  have e0 : (0 : Int32).toInt = 0 := by decide
  have e1 : (244 : Int32).toInt = 244 := by decide
  have e2 : (125000 : Int32).toInt = 125000 := by decide
  have f0 : (0 : Int64).toInt = 0 := by decide
  have f1 : (244 : Int64).toInt = 244 := by decide
  have f2 : (125000 : Int64).toInt = 125000 := by decide
  simp only [lg_cmp_lt0, lg_cmp_le0, lg_cmp_gt0, lg_cmp_ge0, lg_cmp_eq0] at *
  simp only [Int64.lt_iff_toInt_lt, Int64.le_iff_toInt_le, ← Int64.toInt_inj, Int32.toInt_toInt64, Int32.lt_iff_toInt_lt, Int32.le_iff_toInt_le, ← Int32.toInt_inj, e0, e1, e2, f0, f1, f2] at *
  omega

theorem iv147 (x : Int32) (h0 : ¬ 244 < x) : ¬ 0 < (lg_cmp (x).toInt64 62500) := by
  have e0 : (0 : Int32).toInt = 0 := by decide
  have e1 : (244 : Int32).toInt = 244 := by decide
  have e2 : (62500 : Int32).toInt = 62500 := by decide
  have f0 : (0 : Int64).toInt = 0 := by decide
  have f1 : (244 : Int64).toInt = 244 := by decide
  have f2 : (62500 : Int64).toInt = 62500 := by decide
  simp only [lg_cmp_lt0, lg_cmp_le0, lg_cmp_gt0, lg_cmp_ge0, lg_cmp_eq0] at *
  simp only [Int64.lt_iff_toInt_lt, Int64.le_iff_toInt_le, ← Int64.toInt_inj, Int32.toInt_toInt64, Int32.lt_iff_toInt_lt, Int32.le_iff_toInt_le, ← Int32.toInt_inj, e0, e1, e2, f0, f1, f2] at *
  omega

theorem iv148 (x : Int32) (h0 : ¬ 244 < x) : ¬ 0 < (lg_cmp (x).toInt64 31250) := by
  have e0 : (0 : Int32).toInt = 0 := by decide
  have e1 : (244 : Int32).toInt = 244 := by decide
  have e2 : (31250 : Int32).toInt = 31250 := by decide
  have f0 : (0 : Int64).toInt = 0 := by decide
  have f1 : (244 : Int64).toInt = 244 := by decide
  have f2 : (31250 : Int64).toInt = 31250 := by decide
  simp only [lg_cmp_lt0, lg_cmp_le0, lg_cmp_gt0, lg_cmp_ge0, lg_cmp_eq0] at *
  simp only [Int64.lt_iff_toInt_lt, Int64.le_iff_toInt_le, ← Int64.toInt_inj, Int32.toInt_toInt64, Int32.lt_iff_toInt_lt, Int32.le_iff_toInt_le, ← Int32.toInt_inj, e0, e1, e2, f0, f1, f2] at *
  omega

theorem iv149 (x : Int32) (h0 : ¬ 244 < x) : ¬ 0 < (lg_cmp (x).toInt64 15625) := by
  have e0 : (0 : Int32).toInt = 0 := by decide
  have e1 : (244 : Int32).toInt = 244 := by decide
  have e2 : (15625 : Int32).toInt = 15625 := by decide
  have f0 : (0 : Int64).toInt = 0 := by decide
  have f1 : (244 : Int64).toInt = 244 := by decide
  have f2 : (15625 : Int64).toInt = 15625 := by decide
  simp only [lg_cmp_lt0, lg_cmp_le0, lg_cmp_gt0, lg_cmp_ge0, lg_cmp_eq0] at *
  simp only [Int64.lt_iff_toInt_lt, Int64.le_iff_toInt_le, ← Int64.toInt_inj, Int32.toInt_toInt64, Int32.lt_iff_toInt_lt, Int32.le_iff_toInt_le, ← Int32.toInt_inj, e0, e1, e2, f0, f1, f2] at *
  omega

theorem iv150 (x : Int32) (h0 : ¬ 244 < x) : ¬ 0 < (lg_cmp (x).toInt64 7812) := by
  have e0 : (0 : Int32).toInt = 0 := by decide
  have e1 : (244 : Int32).toInt = 244 := by decide
  have e2 : (7812 : Int32).toInt = 7812 := by decide
  have f0 : (0 : Int64).toInt = 0 := by decide
  have f1 : (244 : Int64).toInt = 244 := by decide
  have f2 : (7812 : Int64).toInt = 7812 := by decide
  simp only [lg_cmp_lt0, lg_cmp_le0, lg_cmp_gt0, lg_cmp_ge0, lg_cmp_eq0] at *
  simp only [Int64.lt_iff_toInt_lt, Int64.le_iff_toInt_le, ← Int64.toInt_inj, Int32.toInt_toInt64, Int32.lt_iff_toInt_lt, Int32.le_iff_toInt_le, ← Int32.toInt_inj, e0, e1, e2, f0, f1, f2] at *
  omega

theorem iv151 (x : Int32) (h0 : ¬ 244 < x) : ¬ 0 < (lg_cmp (x).toInt64 3906) := by
  have e0 : (0 : Int32).toInt = 0 := by decide
  have e1 : (244 : Int32).toInt = 244 := by decide
  have e2 : (3906 : Int32).toInt = 3906 := by decide
  have f0 : (0 : Int64).toInt = 0 := by decide
  have f1 : (244 : Int64).toInt = 244 := by decide
  have f2 : (3906 : Int64).toInt = 3906 := by decide
  simp only [lg_cmp_lt0, lg_cmp_le0, lg_cmp_gt0, lg_cmp_ge0, lg_cmp_eq0] at *
  simp only [Int64.lt_iff_toInt_lt, Int64.le_iff_toInt_le, ← Int64.toInt_inj, Int32.toInt_toInt64, Int32.lt_iff_toInt_lt, Int32.le_iff_toInt_le, ← Int32.toInt_inj, e0, e1, e2, f0, f1, f2] at *
  omega

theorem iv152 (x : Int32) (h0 : ¬ 244 < x) : ¬ 0 < (lg_cmp (x).toInt64 1953) := by
  have e0 : (0 : Int32).toInt = 0 := by decide
  have e1 : (244 : Int32).toInt = 244 := by decide
  have e2 : (1953 : Int32).toInt = 1953 := by decide
  have f0 : (0 : Int64).toInt = 0 := by decide
  have f1 : (244 : Int64).toInt = 244 := by decide
  have f2 : (1953 : Int64).toInt = 1953 := by decide
  simp only [lg_cmp_lt0, lg_cmp_le0, lg_cmp_gt0, lg_cmp_ge0, lg_cmp_eq0] at *
  simp only [Int64.lt_iff_toInt_lt, Int64.le_iff_toInt_le, ← Int64.toInt_inj, Int32.toInt_toInt64, Int32.lt_iff_toInt_lt, Int32.le_iff_toInt_le, ← Int32.toInt_inj, e0, e1, e2, f0, f1, f2] at *
  omega

theorem iv153 (x : Int32) (h0 : ¬ 244 < x) : ¬ 0 < (lg_cmp (x).toInt64 976) := by
  have e0 : (0 : Int32).toInt = 0 := by decide
  have e1 : (244 : Int32).toInt = 244 := by decide
  have e2 : (976 : Int32).toInt = 976 := by decide
  have f0 : (0 : Int64).toInt = 0 := by decide
  have f1 : (244 : Int64).toInt = 244 := by decide
  have f2 : (976 : Int64).toInt = 976 := by decide
  simp only [lg_cmp_lt0, lg_cmp_le0, lg_cmp_gt0, lg_cmp_ge0, lg_cmp_eq0] at *
  simp only [Int64.lt_iff_toInt_lt, Int64.le_iff_toInt_le, ← Int64.toInt_inj, Int32.toInt_toInt64, Int32.lt_iff_toInt_lt, Int32.le_iff_toInt_le, ← Int32.toInt_inj, e0, e1, e2, f0, f1, f2] at *
  omega

theorem iv154 (x : Int32) (h0 : ¬ 244 < x) : ¬ 0 < (lg_cmp (x).toInt64 488) := by
  have e0 : (0 : Int32).toInt = 0 := by decide
  have e1 : (244 : Int32).toInt = 244 := by decide
  have e2 : (488 : Int32).toInt = 488 := by decide
  have f0 : (0 : Int64).toInt = 0 := by decide
  have f1 : (244 : Int64).toInt = 244 := by decide
  have f2 : (488 : Int64).toInt = 488 := by decide
  simp only [lg_cmp_lt0, lg_cmp_le0, lg_cmp_gt0, lg_cmp_ge0, lg_cmp_eq0] at *
  simp only [Int64.lt_iff_toInt_lt, Int64.le_iff_toInt_le, ← Int64.toInt_inj, Int32.toInt_toInt64, Int32.lt_iff_toInt_lt, Int32.le_iff_toInt_le, ← Int32.toInt_inj, e0, e1, e2, f0, f1, f2] at *
  omega

theorem iv155 (x : Int32) (h0 : ¬ 244 < x) : ¬ 0 < (lg_cmp (x).toInt64 244) := by
  have e0 : (0 : Int32).toInt = 0 := by decide
  have e1 : (244 : Int32).toInt = 244 := by decide
  have f0 : (0 : Int64).toInt = 0 := by decide
  have f1 : (244 : Int64).toInt = 244 := by decide
  simp only [lg_cmp_lt0, lg_cmp_le0, lg_cmp_gt0, lg_cmp_ge0, lg_cmp_eq0] at *
  simp only [Int64.lt_iff_toInt_lt, Int64.le_iff_toInt_le, ← Int64.toInt_inj, Int32.toInt_toInt64, Int32.lt_iff_toInt_lt, Int32.le_iff_toInt_le, ← Int32.toInt_inj, e0, e1, f0, f1] at *
  omega

theorem iv156 (x : Int32) (h0 : 122 < x) : 0 < (lg_cmp (x).toInt64 122) := by
  have e0 : (0 : Int32).toInt = 0 := by decide
  have e1 : (122 : Int32).toInt = 122 := by decide
  have f0 : (0 : Int64).toInt = 0 := by decide
  have f1 : (122 : Int64).toInt = 122 := by decide
  simp only [lg_cmp_lt0, lg_cmp_le0, lg_cmp_gt0, lg_cmp_ge0, lg_cmp_eq0] at *
  simp only [Int64.lt_iff_toInt_lt, Int64.le_iff_toInt_le, ← Int64.toInt_inj, Int32.toInt_toInt64, Int32.lt_iff_toInt_lt, Int32.le_iff_toInt_le, ← Int32.toInt_inj, e0, e1, f0, f1] at *
  omega

set_option maxHeartbeats 4000000 in
set_option maxRecDepth 100000 in
theorem k_X6_costOf_12 (l : Launch) (D : va_G) (κ ε : Nat → Nat) (h0 h1 h2 h3 : Nat) (sz : Nat) (p0 : Int32) (hf0 : ¬ 244 < p0) (hf1 : 122 < p0) : Met l yX6_costOf wsX6_costOf ({ frames := 1, cells := 0, slots := 0, locals := 26 }) (va_Pc [.ref h0, .int p0] (Pre2 D κ ε [(h0, .inr (8, [.int 0, .int 0, .int 2, .ref h1, .ref h2, .int 0, .int 500, .int 0, .int 0, .int 0, .ref h3]))] sz)) (va_Qi (fun r (u : List Value) => (0 < (lg_cmp (p0).toInt64 0)) ∧ ((lg_cmp (p0).toInt64 1000000) < 0) ∧ (¬ 0 < (lg_cmp (p0).toInt64 500000)) ∧ (¬ 0 < (lg_cmp (p0).toInt64 250000)) ∧ (¬ 0 < (lg_cmp (p0).toInt64 125000)) ∧ (¬ 0 < (lg_cmp (p0).toInt64 62500)) ∧ (¬ 0 < (lg_cmp (p0).toInt64 31250)) ∧ (¬ 0 < (lg_cmp (p0).toInt64 15625)) ∧ (¬ 0 < (lg_cmp (p0).toInt64 7812)) ∧ (¬ 0 < (lg_cmp (p0).toInt64 3906)) ∧ (¬ 0 < (lg_cmp (p0).toInt64 1953)) ∧ (¬ 0 < (lg_cmp (p0).toInt64 976)) ∧ (¬ 0 < (lg_cmp (p0).toInt64 488)) ∧ (¬ 0 < (lg_cmp (p0).toInt64 244)) ∧ (0 < (lg_cmp (p0).toInt64 122)) ∧ (u[0]? = some (.int 0)) ∧ (r = ((12288 + ((1024 * (244 - (p0).toInt64)) / 122))).toInt32)) (fun u t => va_P D vwCl [(h0, .inr (8, u))] t.heap ∧ va_D (va_A [(h0, .inr (8, [.int 0, .int 0, .int 2, .ref h1, .ref h2, .int 0, .int 500, .int 0, .int 0, .int 0, .ref h3]))] sz) [(h0, .inr (8, u))]) (va_A [(h0, .inr (8, [.int 0, .int 0, .int 2, .ref h1, .ref h2, .int 0, .int 500, .int 0, .int 0, .int 0, .ref h3]))] sz)) 0 0 (va_A [(h0, .inr (8, [.int 0, .int 0, .int 2, .ref h1, .ref h2, .int 0, .int 500, .int 0, .int 0, .int 0, .ref h3]))] sz) := by
  refine Met.ofW (cc := cX6_costOf) (maxL := 2) (ret := (some .int)) (by decide) rfl ?_
  intro p e s m args below meth c s₁ B hml hv
  obtain ⟨rfl, hsz, hP, hK, hD0, hE9⟩ := hv
  have hx := B.exec
  have hb := B.bytes
  have hr := B.returns
  have hts := atoms_spec (ws := wsX6_costOf) B.pre
  have hown : s.vm.findClass RX6 = some m.cls := findClass_of_methodNamed B.named
  have hlocks := B.notSynchronized
  subst hsz
  have hD := hD0.self (sz := s.heap.size)
  generalize hAe : va_A [(h0, .inr (8, [.int 0, .int 0, .int 2, .ref h1, .ref h2, .int 0, .int 500, .int 0, .int 0, .int 0, .ref h3]))] s.heap.size = A at hD hE9 ⊢
  have hE := hE9.1
  have hDc := hE9.2
  have hA : ∀ q : Nat, s.heap.size ≤ q → A q := fun q h => by rw [← hAe]; exact Or.inr h
  have hS : va_S A s.heap s.heap [] := va_S.rf
  have hP : va_P D vwCl [(h0, .inr (8, [.int 0, .int 0, .int 2, .ref h1, .ref h2, .int 0, .int 500, .int 0, .int 0, .int 0, .ref h3]))] s.heap := hP
  have hl := lv_entry [.ref h0, .int p0] (n := 2) (Nat.le_of_ble_eq_true rfl)
  rw [lg_entry_eq]
  generalize (lg_sl [.ref h0, .int p0] ++ List.replicate (2 - (lg_sl [.ref h0, .int p0]).length) Slot.unset).toArray = ls at hl ⊢
  have hl : lv_has ls 2 [(0, .ref h0), (1, .int p0)] := hl
  refine lv_aload_n hx hb dX6_costOf_0 rfl (lv_at hl 0 rfl) ?_
  refine lv_iload_n hx hb dX6_costOf_1 rfl (lv_at hl 1 rfl) ?_
  refine lv_i2l (v := (p0).toInt64) hx hb dX6_costOf_2 rfl ?_
  refine vp_callSi (W.runS (As := [.long (p0).toInt64]) (rest := [.ref h0]) ⟨hx, hb, hml, hown, hts⟩ (k_X6_cost_0 l D κ ε ((p0).toInt64)) (va_cwS 1 hts gX6_costOf_X6_cost rfl rfl rfl (by decide +kernel) ⟨(Nat.le_of_ble_eq_true rfl), (Nat.le_of_ble_eq_true rfl)⟩) (pre0_S (wc := []) hP hK [] rfl) rfl rfl hl.1 rfl (lv_room (Nat.le_of_ble_eq_true rfl)) dX6_costOf_3 ⟨(Nat.le_of_ble_eq_true rfl), (Nat.le_of_ble_eq_true rfl)⟩) (fun r hw => ?_)
  rcases hw with ⟨c1, c2, c3, hv4⟩ | ⟨c5, c6, c7, c8, hv9⟩ | ⟨c10, c11, c12, c13, c14, hv15⟩ | ⟨c16, c17, c18, c19, c20, c21, hv22⟩ | ⟨c23, c24, c25, c26, c27, c28, c29, hv30⟩ | ⟨c31, c32, c33, c34, c35, c36, c37, c38, hv39⟩ | ⟨c40, c41, c42, c43, c44, c45, c46, c47, c48, hv49⟩ | ⟨c50, c51, c52, c53, c54, c55, c56, c57, c58, c59, hv60⟩ | ⟨c61, c62, c63, c64, c65, c66, c67, c68, c69, c70, c71, hv72⟩ | ⟨c73, c74, c75, c76, c77, c78, c79, c80, c81, c82, c83, c84, hv85⟩ | ⟨c86, c87, c88, c89, c90, c91, c92, c93, c94, c95, c96, c97, c98, hv99⟩ | ⟨c100, c101, c102, c103, c104, c105, c106, c107, c108, c109, c110, c111, c112, c113, hv114⟩ | ⟨c115, c116, c117, c118, c119, c120, c121, c122, c123, c124, c125, c126, c127, c128, c129, hv130⟩ | ⟨c131, c132, c133, c134, c135, c136, c137, c138, c139, c140, c141, c142, c143, c144, c145, c146, hv147⟩ | ⟨c148, c149, c150, c151, c152, c153, c154, c155, c156, c157, c158, c159, c160, c161, c162, c163, c164, hv165⟩ | ⟨c166, c167, c168, c169, c170, c171, c172, c173, c174, c175, c176, c177, c178, c179, c180, c181, c182, c183, hv184⟩ | ⟨c185, c186, c187, c188, c189, c190, c191, c192, c193, c194, c195, c196, c197, c198, c199, c200, c201, c202, c203, hv204⟩ | ⟨c205, c206, c207, c208, c209, c210, c211, c212, c213, c214, c215, c216, c217, c218, c219, c220, c221, c222, c223, c224, hv225⟩ | ⟨c226, c227, c228, c229, c230, c231, c232, c233, c234, c235, c236, c237, c238, c239, c240, c241, c242, c243, c244, c245, c246, hv247⟩ | ⟨c248, c249, c250, c251, c252, c253, c254, c255, c256, c257, c258, c259, c260, c261, c262, c263, c264, c265, c266, c267, c268, hv269⟩ | ⟨c270, c271, rfl⟩ | ⟨c272, rfl⟩
  · skip
    rw [hv4]
    exact absurd c3 (iv144 _ hf0)
  · skip
    rw [hv9]
    exact absurd c8 (iv145 _ hf0)
  · skip
    rw [hv15]
    exact absurd c14 (iv146 _ hf0)
  · skip
    rw [hv22]
    exact absurd c21 (iv147 _ hf0)
  · skip
    rw [hv30]
    exact absurd c29 (iv148 _ hf0)
  · skip
    rw [hv39]
    exact absurd c38 (iv149 _ hf0)
  · skip
    rw [hv49]
    exact absurd c48 (iv150 _ hf0)
  · skip
    rw [hv60]
    exact absurd c59 (iv151 _ hf0)
  · skip
    rw [hv72]
    exact absurd c71 (iv152 _ hf0)
  · skip
    rw [hv85]
    exact absurd c84 (iv153 _ hf0)
  · skip
    rw [hv99]
    exact absurd c98 (iv154 _ hf0)
  · skip
    rw [hv114]
    exact absurd c113 (iv155 _ hf0)
  · skip
    rw [hv130]
    have hF := va_free (wc := [(h0, .inr (8, [.int 0, .int 0, .int 2, .ref h1, .ref h2, .int 0, .int 500, .int 0, .int 0, .int 0, .ref h3]))]) hD hS hA [0] rfl
    refine va_calli (va_runV (As := [.int ((12288 + ((1024 * (244 - (p0).toInt64)) / 122))).toInt32]) (rest := []) ⟨hx, hb, hml, hown, hts⟩ (k_X6_plain_2 l D κ ε h0 h1 h2 h3 s.heap.size (((12288 + ((1024 * (244 - (p0).toInt64)) / 122))).toInt32) (0) (0) (2) (0) (500) (0) (0)) (cwV 1 hts gX6_costOf_X6_plain rfl rfl rfl (by decide +kernel) ⟨(Nat.le_of_ble_eq_true rfl), (Nat.le_of_ble_eq_true rfl)⟩) (pre2_V (q0 := 0) (ci := 8) (wc := [(h0, .inr (8, [.int 0, .int 0, .int 2, .ref h1, .ref h2, .int 0, .int 500, .int 0, .int 0, .int 0, .ref h3]))]) hP hD hK hE9 hS hA [0] (by decide) rfl rfl rfl) rfl rfl hl.1 rfl (lv_room (Nat.le_of_ble_eq_true rfl)) dX6_costOf_6 ⟨(Nat.le_of_ble_eq_true rfl), (Nat.le_of_ble_eq_true rfl)⟩) hS (fun q _ h => hF q h) hF (fun r u273 t H locs ht hvm hw hB hz1 hk1 hS => ?_)
    try dsimp only at hw hB
    obtain ⟨hP1, hD1⟩ := hB
    rw [ht] at hP1
    obtain ⟨hP, hD⟩ := post_j (ws' := [(h0, .inr (8, [.int 0, .int 0, .int 2, .ref h1, .ref h2, .int 0, .int 500, .int 0, .int 0, .int 0, .ref h3]))]) (wr := []) (w1 := [(h0, .inr (8, [.int 0, .int 0, .int 2, .ref h1, .ref h2, .int 0, .int 500, .int 0, .int 0, .int 0, .ref h3]))]) hP hD hF [0] rfl [] rfl (by decide) (by decide) hk1 hP1 hD1 [0] (by decide) rfl
    have hP : va_P D vwCl [(h0, .inr (8, [.int 0, .int 0, .int 2, .ref h1, .ref h2, .int 0, .int 500, .int 0, .int 0, .int 0, .ref h3]))] H := hP
    have hD : va_D A [(h0, .inr (8, [.int 0, .int 0, .int 2, .ref h1, .ref h2, .int 0, .int 500, .int 0, .int 0, .int 0, .ref h3]))] := hD
    rw [hw]
    have hP9 := hP.sub (ws' := [(h0, .inr (8, [.int 0, .int 0, .int 2, .ref h1, .ref h2, .int 0, .int 500, .int 0, .int 0, .int 0, .ref h3]))]) [0] rfl
    have hD9 := hD.sub (ws' := [(h0, .inr (8, [.int 0, .int 0, .int 2, .ref h1, .ref h2, .int 0, .int 500, .int 0, .int 0, .int 0, .ref h3]))]) [0] (by decide) rfl
    exact W.iret (v := ((12288 + ((1024 * (244 - (p0).toInt64)) / 122))).toInt32) hx hb hr (fun t ht hW => ⟨⟨((12288 + ((1024 * (244 - (p0).toInt64)) / 122))).toInt32, [.int 0, .int 0, .int 2, .ref h1, .ref h2, .int 0, .int 500, .int 0, .int 0, .int 0, .ref h3], rfl, ⟨c115, c116, c117, c118, c119, c120, c121, c122, c123, c124, c125, c126, c127, c128, c129, rfl, rfl⟩, by rw [ht]; exact hP9, hD9⟩, hS.F ht⟩) hS.2.2 dX6_costOf_9
  · skip
    rw [hv147]
    exact absurd (iv156 _ hf1) c145
  · skip
    rw [hv165]
    exact absurd (iv156 _ hf1) c162
  · skip
    rw [hv184]
    exact absurd (iv156 _ hf1) c180
  · skip
    rw [hv204]
    exact absurd (iv156 _ hf1) c199
  · skip
    rw [hv225]
    exact absurd (iv156 _ hf1) c219
  · skip
    rw [hv247]
    exact absurd (iv156 _ hf1) c240
  · skip
    rw [hv269]
    exact absurd (iv156 _ hf1) c262
  · skip
    exact absurd (iv143 _ hf0) c271
  · skip
    exact absurd (iv142 _ hf1) c272

theorem iv157 (x : Int32) (h0 : 0 < (lg_cmp (x).toInt64 122)) : 0 < x := by
  have e0 : (0 : Int32).toInt = 0 := by decide
  have e1 : (122 : Int32).toInt = 122 := by decide
  have f0 : (0 : Int64).toInt = 0 := by decide
  have f1 : (122 : Int64).toInt = 122 := by decide
  simp only [lg_cmp_lt0, lg_cmp_le0, lg_cmp_gt0, lg_cmp_ge0, lg_cmp_eq0] at *
  simp only [Int64.lt_iff_toInt_lt, Int64.le_iff_toInt_le, ← Int64.toInt_inj, Int32.toInt_toInt64, Int32.lt_iff_toInt_lt, Int32.le_iff_toInt_le, ← Int32.toInt_inj, e0, e1, f0, f1] at *
  omega

theorem iv158 (x : Int32) (h0 : ¬ 0 < (lg_cmp (x).toInt64 244)) : x ≤ 244 := by
  have e0 : (0 : Int32).toInt = 0 := by decide
  have e1 : (244 : Int32).toInt = 244 := by decide
  have f0 : (0 : Int64).toInt = 0 := by decide
  have f1 : (244 : Int64).toInt = 244 := by decide
  simp only [lg_cmp_lt0, lg_cmp_le0, lg_cmp_gt0, lg_cmp_ge0, lg_cmp_eq0] at *
  simp only [Int64.lt_iff_toInt_lt, Int64.le_iff_toInt_le, ← Int64.toInt_inj, Int32.toInt_toInt64, Int32.lt_iff_toInt_lt, Int32.le_iff_toInt_le, ← Int32.toInt_inj, e0, e1, f0, f1] at *
  omega

theorem iv159 (x : Int32) (h0 : 61 < x) : 0 < (lg_cmp (x).toInt64 0) := by
  have e0 : (0 : Int32).toInt = 0 := by decide
  have e1 : (61 : Int32).toInt = 61 := by decide
  have f0 : (0 : Int64).toInt = 0 := by decide
  have f1 : (61 : Int64).toInt = 61 := by decide
  simp only [lg_cmp_lt0, lg_cmp_le0, lg_cmp_gt0, lg_cmp_ge0, lg_cmp_eq0] at *
  simp only [Int64.lt_iff_toInt_lt, Int64.le_iff_toInt_le, ← Int64.toInt_inj, Int32.toInt_toInt64, Int32.lt_iff_toInt_lt, Int32.le_iff_toInt_le, ← Int32.toInt_inj, e0, e1, f0, f1] at *
  omega

theorem iv160 (x : Int32) (h0 : ¬ 122 < x) : (lg_cmp (x).toInt64 1000000) < 0 := by
  have e0 : (0 : Int32).toInt = 0 := by decide
  have e1 : (122 : Int32).toInt = 122 := by decide
  have e2 : (1000000 : Int32).toInt = 1000000 := by decide
  have f0 : (0 : Int64).toInt = 0 := by decide
  have f1 : (122 : Int64).toInt = 122 := by decide
  have f2 : (1000000 : Int64).toInt = 1000000 := by decide
  simp only [lg_cmp_lt0, lg_cmp_le0, lg_cmp_gt0, lg_cmp_ge0, lg_cmp_eq0] at *
  simp only [Int64.lt_iff_toInt_lt, Int64.le_iff_toInt_le, ← Int64.toInt_inj, Int32.toInt_toInt64, Int32.lt_iff_toInt_lt, Int32.le_iff_toInt_le, ← Int32.toInt_inj, e0, e1, e2, f0, f1, f2] at *
  omega

theorem iv161 (x : Int32) (h0 : ¬ 122 < x) : ¬ 0 < (lg_cmp (x).toInt64 500000) := by
  have e0 : (0 : Int32).toInt = 0 := by decide
  have e1 : (122 : Int32).toInt = 122 := by decide
  have e2 : (500000 : Int32).toInt = 500000 := by decide
  have f0 : (0 : Int64).toInt = 0 := by decide
  have f1 : (122 : Int64).toInt = 122 := by decide
  have f2 : (500000 : Int64).toInt = 500000 := by decide
  simp only [lg_cmp_lt0, lg_cmp_le0, lg_cmp_gt0, lg_cmp_ge0, lg_cmp_eq0] at *
  simp only [Int64.lt_iff_toInt_lt, Int64.le_iff_toInt_le, ← Int64.toInt_inj, Int32.toInt_toInt64, Int32.lt_iff_toInt_lt, Int32.le_iff_toInt_le, ← Int32.toInt_inj, e0, e1, e2, f0, f1, f2] at *
  omega

theorem iv162 (x : Int32) (h0 : ¬ 122 < x) : ¬ 0 < (lg_cmp (x).toInt64 250000) := by
  have e0 : (0 : Int32).toInt = 0 := by decide
  have e1 : (122 : Int32).toInt = 122 := by decide
  have e2 : (250000 : Int32).toInt = 250000 := by decide
  have f0 : (0 : Int64).toInt = 0 := by decide
  have f1 : (122 : Int64).toInt = 122 := by decide
  have f2 : (250000 : Int64).toInt = 250000 := by decide
  simp only [lg_cmp_lt0, lg_cmp_le0, lg_cmp_gt0, lg_cmp_ge0, lg_cmp_eq0] at *
  simp only [Int64.lt_iff_toInt_lt, Int64.le_iff_toInt_le, ← Int64.toInt_inj, Int32.toInt_toInt64, Int32.lt_iff_toInt_lt, Int32.le_iff_toInt_le, ← Int32.toInt_inj, e0, e1, e2, f0, f1, f2] at *
  omega

theorem iv163 (x : Int32) (h0 : ¬ 122 < x) : ¬ 0 < (lg_cmp (x).toInt64 125000) := by
  have e0 : (0 : Int32).toInt = 0 := by decide
  have e1 : (122 : Int32).toInt = 122 := by decide
  have e2 : (125000 : Int32).toInt = 125000 := by decide
  have f0 : (0 : Int64).toInt = 0 := by decide
  have f1 : (122 : Int64).toInt = 122 := by decide
  have f2 : (125000 : Int64).toInt = 125000 := by decide
  simp only [lg_cmp_lt0, lg_cmp_le0, lg_cmp_gt0, lg_cmp_ge0, lg_cmp_eq0] at *
  simp only [Int64.lt_iff_toInt_lt, Int64.le_iff_toInt_le, ← Int64.toInt_inj, Int32.toInt_toInt64, Int32.lt_iff_toInt_lt, Int32.le_iff_toInt_le, ← Int32.toInt_inj, e0, e1, e2, f0, f1, f2] at *
  omega

theorem iv164 (x : Int32) (h0 : ¬ 122 < x) : ¬ 0 < (lg_cmp (x).toInt64 62500) := by
  have e0 : (0 : Int32).toInt = 0 := by decide
  have e1 : (122 : Int32).toInt = 122 := by decide
  have e2 : (62500 : Int32).toInt = 62500 := by decide
  have f0 : (0 : Int64).toInt = 0 := by decide
  have f1 : (122 : Int64).toInt = 122 := by decide
  have f2 : (62500 : Int64).toInt = 62500 := by decide
  simp only [lg_cmp_lt0, lg_cmp_le0, lg_cmp_gt0, lg_cmp_ge0, lg_cmp_eq0] at *
  simp only [Int64.lt_iff_toInt_lt, Int64.le_iff_toInt_le, ← Int64.toInt_inj, Int32.toInt_toInt64, Int32.lt_iff_toInt_lt, Int32.le_iff_toInt_le, ← Int32.toInt_inj, e0, e1, e2, f0, f1, f2] at *
  omega

theorem iv165 (x : Int32) (h0 : ¬ 122 < x) : ¬ 0 < (lg_cmp (x).toInt64 31250) := by
  have e0 : (0 : Int32).toInt = 0 := by decide
  have e1 : (122 : Int32).toInt = 122 := by decide
  have e2 : (31250 : Int32).toInt = 31250 := by decide
  have f0 : (0 : Int64).toInt = 0 := by decide
  have f1 : (122 : Int64).toInt = 122 := by decide
  have f2 : (31250 : Int64).toInt = 31250 := by decide
  simp only [lg_cmp_lt0, lg_cmp_le0, lg_cmp_gt0, lg_cmp_ge0, lg_cmp_eq0] at *
  simp only [Int64.lt_iff_toInt_lt, Int64.le_iff_toInt_le, ← Int64.toInt_inj, Int32.toInt_toInt64, Int32.lt_iff_toInt_lt, Int32.le_iff_toInt_le, ← Int32.toInt_inj, e0, e1, e2, f0, f1, f2] at *
  omega

theorem iv166 (x : Int32) (h0 : ¬ 122 < x) : ¬ 0 < (lg_cmp (x).toInt64 15625) := by
  have e0 : (0 : Int32).toInt = 0 := by decide
  have e1 : (122 : Int32).toInt = 122 := by decide
  have e2 : (15625 : Int32).toInt = 15625 := by decide
  have f0 : (0 : Int64).toInt = 0 := by decide
  have f1 : (122 : Int64).toInt = 122 := by decide
  have f2 : (15625 : Int64).toInt = 15625 := by decide
  simp only [lg_cmp_lt0, lg_cmp_le0, lg_cmp_gt0, lg_cmp_ge0, lg_cmp_eq0] at *
  simp only [Int64.lt_iff_toInt_lt, Int64.le_iff_toInt_le, ← Int64.toInt_inj, Int32.toInt_toInt64, Int32.lt_iff_toInt_lt, Int32.le_iff_toInt_le, ← Int32.toInt_inj, e0, e1, e2, f0, f1, f2] at *
  omega

theorem iv167 (x : Int32) (h0 : ¬ 122 < x) : ¬ 0 < (lg_cmp (x).toInt64 7812) := by
  have e0 : (0 : Int32).toInt = 0 := by decide
  have e1 : (122 : Int32).toInt = 122 := by decide
  have e2 : (7812 : Int32).toInt = 7812 := by decide
  have f0 : (0 : Int64).toInt = 0 := by decide
  have f1 : (122 : Int64).toInt = 122 := by decide
  have f2 : (7812 : Int64).toInt = 7812 := by decide
  simp only [lg_cmp_lt0, lg_cmp_le0, lg_cmp_gt0, lg_cmp_ge0, lg_cmp_eq0] at *
  simp only [Int64.lt_iff_toInt_lt, Int64.le_iff_toInt_le, ← Int64.toInt_inj, Int32.toInt_toInt64, Int32.lt_iff_toInt_lt, Int32.le_iff_toInt_le, ← Int32.toInt_inj, e0, e1, e2, f0, f1, f2] at *
  omega

theorem iv168 (x : Int32) (h0 : ¬ 122 < x) : ¬ 0 < (lg_cmp (x).toInt64 3906) := by
  have e0 : (0 : Int32).toInt = 0 := by decide
  have e1 : (122 : Int32).toInt = 122 := by decide
  have e2 : (3906 : Int32).toInt = 3906 := by decide
  have f0 : (0 : Int64).toInt = 0 := by decide
  have f1 : (122 : Int64).toInt = 122 := by decide
  have f2 : (3906 : Int64).toInt = 3906 := by decide
  simp only [lg_cmp_lt0, lg_cmp_le0, lg_cmp_gt0, lg_cmp_ge0, lg_cmp_eq0] at *
  simp only [Int64.lt_iff_toInt_lt, Int64.le_iff_toInt_le, ← Int64.toInt_inj, Int32.toInt_toInt64, Int32.lt_iff_toInt_lt, Int32.le_iff_toInt_le, ← Int32.toInt_inj, e0, e1, e2, f0, f1, f2] at *
  omega

theorem iv169 (x : Int32) (h0 : ¬ 122 < x) : ¬ 0 < (lg_cmp (x).toInt64 1953) := by
  have e0 : (0 : Int32).toInt = 0 := by decide
  have e1 : (122 : Int32).toInt = 122 := by decide
  have e2 : (1953 : Int32).toInt = 1953 := by decide
  have f0 : (0 : Int64).toInt = 0 := by decide
  have f1 : (122 : Int64).toInt = 122 := by decide
  have f2 : (1953 : Int64).toInt = 1953 := by decide
  simp only [lg_cmp_lt0, lg_cmp_le0, lg_cmp_gt0, lg_cmp_ge0, lg_cmp_eq0] at *
  simp only [Int64.lt_iff_toInt_lt, Int64.le_iff_toInt_le, ← Int64.toInt_inj, Int32.toInt_toInt64, Int32.lt_iff_toInt_lt, Int32.le_iff_toInt_le, ← Int32.toInt_inj, e0, e1, e2, f0, f1, f2] at *
  omega

theorem iv170 (x : Int32) (h0 : ¬ 122 < x) : ¬ 0 < (lg_cmp (x).toInt64 976) := by
  have e0 : (0 : Int32).toInt = 0 := by decide
  have e1 : (122 : Int32).toInt = 122 := by decide
  have e2 : (976 : Int32).toInt = 976 := by decide
  have f0 : (0 : Int64).toInt = 0 := by decide
  have f1 : (122 : Int64).toInt = 122 := by decide
  have f2 : (976 : Int64).toInt = 976 := by decide
  simp only [lg_cmp_lt0, lg_cmp_le0, lg_cmp_gt0, lg_cmp_ge0, lg_cmp_eq0] at *
  simp only [Int64.lt_iff_toInt_lt, Int64.le_iff_toInt_le, ← Int64.toInt_inj, Int32.toInt_toInt64, Int32.lt_iff_toInt_lt, Int32.le_iff_toInt_le, ← Int32.toInt_inj, e0, e1, e2, f0, f1, f2] at *
  omega

theorem iv171 (x : Int32) (h0 : ¬ 122 < x) : ¬ 0 < (lg_cmp (x).toInt64 488) := by
  have e0 : (0 : Int32).toInt = 0 := by decide
  have e1 : (122 : Int32).toInt = 122 := by decide
  have e2 : (488 : Int32).toInt = 488 := by decide
  have f0 : (0 : Int64).toInt = 0 := by decide
  have f1 : (122 : Int64).toInt = 122 := by decide
  have f2 : (488 : Int64).toInt = 488 := by decide
  simp only [lg_cmp_lt0, lg_cmp_le0, lg_cmp_gt0, lg_cmp_ge0, lg_cmp_eq0] at *
  simp only [Int64.lt_iff_toInt_lt, Int64.le_iff_toInt_le, ← Int64.toInt_inj, Int32.toInt_toInt64, Int32.lt_iff_toInt_lt, Int32.le_iff_toInt_le, ← Int32.toInt_inj, e0, e1, e2, f0, f1, f2] at *
  omega

theorem iv172 (x : Int32) (h0 : ¬ 122 < x) : ¬ 0 < (lg_cmp (x).toInt64 244) := by
  have e0 : (0 : Int32).toInt = 0 := by decide
  have e1 : (122 : Int32).toInt = 122 := by decide
  have e2 : (244 : Int32).toInt = 244 := by decide
  have f0 : (0 : Int64).toInt = 0 := by decide
  have f1 : (122 : Int64).toInt = 122 := by decide
  have f2 : (244 : Int64).toInt = 244 := by decide
  simp only [lg_cmp_lt0, lg_cmp_le0, lg_cmp_gt0, lg_cmp_ge0, lg_cmp_eq0] at *
  simp only [Int64.lt_iff_toInt_lt, Int64.le_iff_toInt_le, ← Int64.toInt_inj, Int32.toInt_toInt64, Int32.lt_iff_toInt_lt, Int32.le_iff_toInt_le, ← Int32.toInt_inj, e0, e1, e2, f0, f1, f2] at *
  omega

theorem iv173 (x : Int32) (h0 : ¬ 122 < x) : ¬ 0 < (lg_cmp (x).toInt64 122) := by
  have e0 : (0 : Int32).toInt = 0 := by decide
  have e1 : (122 : Int32).toInt = 122 := by decide
  have f0 : (0 : Int64).toInt = 0 := by decide
  have f1 : (122 : Int64).toInt = 122 := by decide
  simp only [lg_cmp_lt0, lg_cmp_le0, lg_cmp_gt0, lg_cmp_ge0, lg_cmp_eq0] at *
  simp only [Int64.lt_iff_toInt_lt, Int64.le_iff_toInt_le, ← Int64.toInt_inj, Int32.toInt_toInt64, Int32.lt_iff_toInt_lt, Int32.le_iff_toInt_le, ← Int32.toInt_inj, e0, e1, f0, f1] at *
  omega

theorem iv174 (x : Int32) (h0 : 61 < x) : 0 < (lg_cmp (x).toInt64 61) := by
  have e0 : (0 : Int32).toInt = 0 := by decide
  have e1 : (61 : Int32).toInt = 61 := by decide
  have f0 : (0 : Int64).toInt = 0 := by decide
  have f1 : (61 : Int64).toInt = 61 := by decide
  simp only [lg_cmp_lt0, lg_cmp_le0, lg_cmp_gt0, lg_cmp_ge0, lg_cmp_eq0] at *
  simp only [Int64.lt_iff_toInt_lt, Int64.le_iff_toInt_le, ← Int64.toInt_inj, Int32.toInt_toInt64, Int32.lt_iff_toInt_lt, Int32.le_iff_toInt_le, ← Int32.toInt_inj, e0, e1, f0, f1] at *
  omega

set_option maxHeartbeats 4000000 in
set_option maxRecDepth 100000 in
theorem k_X6_costOf_13 (l : Launch) (D : va_G) (κ ε : Nat → Nat) (h0 h1 h2 h3 : Nat) (sz : Nat) (p0 : Int32) (hf0 : ¬ 122 < p0) (hf1 : 61 < p0) : Met l yX6_costOf wsX6_costOf ({ frames := 1, cells := 0, slots := 0, locals := 26 }) (va_Pc [.ref h0, .int p0] (Pre2 D κ ε [(h0, .inr (8, [.int 0, .int 0, .int 2, .ref h1, .ref h2, .int 0, .int 500, .int 0, .int 0, .int 0, .ref h3]))] sz)) (va_Qi (fun r (u : List Value) => (0 < (lg_cmp (p0).toInt64 0)) ∧ ((lg_cmp (p0).toInt64 1000000) < 0) ∧ (¬ 0 < (lg_cmp (p0).toInt64 500000)) ∧ (¬ 0 < (lg_cmp (p0).toInt64 250000)) ∧ (¬ 0 < (lg_cmp (p0).toInt64 125000)) ∧ (¬ 0 < (lg_cmp (p0).toInt64 62500)) ∧ (¬ 0 < (lg_cmp (p0).toInt64 31250)) ∧ (¬ 0 < (lg_cmp (p0).toInt64 15625)) ∧ (¬ 0 < (lg_cmp (p0).toInt64 7812)) ∧ (¬ 0 < (lg_cmp (p0).toInt64 3906)) ∧ (¬ 0 < (lg_cmp (p0).toInt64 1953)) ∧ (¬ 0 < (lg_cmp (p0).toInt64 976)) ∧ (¬ 0 < (lg_cmp (p0).toInt64 488)) ∧ (¬ 0 < (lg_cmp (p0).toInt64 244)) ∧ (¬ 0 < (lg_cmp (p0).toInt64 122)) ∧ (0 < (lg_cmp (p0).toInt64 61)) ∧ (u[0]? = some (.int 0)) ∧ (r = ((13312 + ((1024 * (122 - (p0).toInt64)) / 61))).toInt32)) (fun u t => va_P D vwCl [(h0, .inr (8, u))] t.heap ∧ va_D (va_A [(h0, .inr (8, [.int 0, .int 0, .int 2, .ref h1, .ref h2, .int 0, .int 500, .int 0, .int 0, .int 0, .ref h3]))] sz) [(h0, .inr (8, u))]) (va_A [(h0, .inr (8, [.int 0, .int 0, .int 2, .ref h1, .ref h2, .int 0, .int 500, .int 0, .int 0, .int 0, .ref h3]))] sz)) 0 0 (va_A [(h0, .inr (8, [.int 0, .int 0, .int 2, .ref h1, .ref h2, .int 0, .int 500, .int 0, .int 0, .int 0, .ref h3]))] sz) := by
  refine Met.ofW (cc := cX6_costOf) (maxL := 2) (ret := (some .int)) (by decide) rfl ?_
  intro p e s m args below meth c s₁ B hml hv
  obtain ⟨rfl, hsz, hP, hK, hD0, hE9⟩ := hv
  have hx := B.exec
  have hb := B.bytes
  have hr := B.returns
  have hts := atoms_spec (ws := wsX6_costOf) B.pre
  have hown : s.vm.findClass RX6 = some m.cls := findClass_of_methodNamed B.named
  have hlocks := B.notSynchronized
  subst hsz
  have hD := hD0.self (sz := s.heap.size)
  generalize hAe : va_A [(h0, .inr (8, [.int 0, .int 0, .int 2, .ref h1, .ref h2, .int 0, .int 500, .int 0, .int 0, .int 0, .ref h3]))] s.heap.size = A at hD hE9 ⊢
  have hE := hE9.1
  have hDc := hE9.2
  have hA : ∀ q : Nat, s.heap.size ≤ q → A q := fun q h => by rw [← hAe]; exact Or.inr h
  have hS : va_S A s.heap s.heap [] := va_S.rf
  have hP : va_P D vwCl [(h0, .inr (8, [.int 0, .int 0, .int 2, .ref h1, .ref h2, .int 0, .int 500, .int 0, .int 0, .int 0, .ref h3]))] s.heap := hP
  have hl := lv_entry [.ref h0, .int p0] (n := 2) (Nat.le_of_ble_eq_true rfl)
  rw [lg_entry_eq]
  generalize (lg_sl [.ref h0, .int p0] ++ List.replicate (2 - (lg_sl [.ref h0, .int p0]).length) Slot.unset).toArray = ls at hl ⊢
  have hl : lv_has ls 2 [(0, .ref h0), (1, .int p0)] := hl
  refine lv_aload_n hx hb dX6_costOf_0 rfl (lv_at hl 0 rfl) ?_
  refine lv_iload_n hx hb dX6_costOf_1 rfl (lv_at hl 1 rfl) ?_
  refine lv_i2l (v := (p0).toInt64) hx hb dX6_costOf_2 rfl ?_
  refine vp_callSi (W.runS (As := [.long (p0).toInt64]) (rest := [.ref h0]) ⟨hx, hb, hml, hown, hts⟩ (k_X6_cost_0 l D κ ε ((p0).toInt64)) (va_cwS 1 hts gX6_costOf_X6_cost rfl rfl rfl (by decide +kernel) ⟨(Nat.le_of_ble_eq_true rfl), (Nat.le_of_ble_eq_true rfl)⟩) (pre0_S (wc := []) hP hK [] rfl) rfl rfl hl.1 rfl (lv_room (Nat.le_of_ble_eq_true rfl)) dX6_costOf_3 ⟨(Nat.le_of_ble_eq_true rfl), (Nat.le_of_ble_eq_true rfl)⟩) (fun r hw => ?_)
  rcases hw with ⟨c1, c2, c3, hv4⟩ | ⟨c5, c6, c7, c8, hv9⟩ | ⟨c10, c11, c12, c13, c14, hv15⟩ | ⟨c16, c17, c18, c19, c20, c21, hv22⟩ | ⟨c23, c24, c25, c26, c27, c28, c29, hv30⟩ | ⟨c31, c32, c33, c34, c35, c36, c37, c38, hv39⟩ | ⟨c40, c41, c42, c43, c44, c45, c46, c47, c48, hv49⟩ | ⟨c50, c51, c52, c53, c54, c55, c56, c57, c58, c59, hv60⟩ | ⟨c61, c62, c63, c64, c65, c66, c67, c68, c69, c70, c71, hv72⟩ | ⟨c73, c74, c75, c76, c77, c78, c79, c80, c81, c82, c83, c84, hv85⟩ | ⟨c86, c87, c88, c89, c90, c91, c92, c93, c94, c95, c96, c97, c98, hv99⟩ | ⟨c100, c101, c102, c103, c104, c105, c106, c107, c108, c109, c110, c111, c112, c113, hv114⟩ | ⟨c115, c116, c117, c118, c119, c120, c121, c122, c123, c124, c125, c126, c127, c128, c129, hv130⟩ | ⟨c131, c132, c133, c134, c135, c136, c137, c138, c139, c140, c141, c142, c143, c144, c145, c146, hv147⟩ | ⟨c148, c149, c150, c151, c152, c153, c154, c155, c156, c157, c158, c159, c160, c161, c162, c163, c164, hv165⟩ | ⟨c166, c167, c168, c169, c170, c171, c172, c173, c174, c175, c176, c177, c178, c179, c180, c181, c182, c183, hv184⟩ | ⟨c185, c186, c187, c188, c189, c190, c191, c192, c193, c194, c195, c196, c197, c198, c199, c200, c201, c202, c203, hv204⟩ | ⟨c205, c206, c207, c208, c209, c210, c211, c212, c213, c214, c215, c216, c217, c218, c219, c220, c221, c222, c223, c224, hv225⟩ | ⟨c226, c227, c228, c229, c230, c231, c232, c233, c234, c235, c236, c237, c238, c239, c240, c241, c242, c243, c244, c245, c246, hv247⟩ | ⟨c248, c249, c250, c251, c252, c253, c254, c255, c256, c257, c258, c259, c260, c261, c262, c263, c264, c265, c266, c267, c268, hv269⟩ | ⟨c270, c271, rfl⟩ | ⟨c272, rfl⟩
  · skip
    rw [hv4]
    exact absurd c3 (iv161 _ hf0)
  · skip
    rw [hv9]
    exact absurd c8 (iv162 _ hf0)
  · skip
    rw [hv15]
    exact absurd c14 (iv163 _ hf0)
  · skip
    rw [hv22]
    exact absurd c21 (iv164 _ hf0)
  · skip
    rw [hv30]
    exact absurd c29 (iv165 _ hf0)
  · skip
    rw [hv39]
    exact absurd c38 (iv166 _ hf0)
  · skip
    rw [hv49]
    exact absurd c48 (iv167 _ hf0)
  · skip
    rw [hv60]
    exact absurd c59 (iv168 _ hf0)
  · skip
    rw [hv72]
    exact absurd c71 (iv169 _ hf0)
  · skip
    rw [hv85]
    exact absurd c84 (iv170 _ hf0)
  · skip
    rw [hv99]
    exact absurd c98 (iv171 _ hf0)
  · skip
    rw [hv114]
    exact absurd c113 (iv172 _ hf0)
  · skip
    rw [hv130]
    exact absurd c129 (iv173 _ hf0)
  · skip
    rw [hv147]
    have hF := va_free (wc := [(h0, .inr (8, [.int 0, .int 0, .int 2, .ref h1, .ref h2, .int 0, .int 500, .int 0, .int 0, .int 0, .ref h3]))]) hD hS hA [0] rfl
    refine va_calli (va_runV (As := [.int ((13312 + ((1024 * (122 - (p0).toInt64)) / 61))).toInt32]) (rest := []) ⟨hx, hb, hml, hown, hts⟩ (k_X6_plain_2 l D κ ε h0 h1 h2 h3 s.heap.size (((13312 + ((1024 * (122 - (p0).toInt64)) / 61))).toInt32) (0) (0) (2) (0) (500) (0) (0)) (cwV 1 hts gX6_costOf_X6_plain rfl rfl rfl (by decide +kernel) ⟨(Nat.le_of_ble_eq_true rfl), (Nat.le_of_ble_eq_true rfl)⟩) (pre2_V (q0 := 0) (ci := 8) (wc := [(h0, .inr (8, [.int 0, .int 0, .int 2, .ref h1, .ref h2, .int 0, .int 500, .int 0, .int 0, .int 0, .ref h3]))]) hP hD hK hE9 hS hA [0] (by decide) rfl rfl rfl) rfl rfl hl.1 rfl (lv_room (Nat.le_of_ble_eq_true rfl)) dX6_costOf_6 ⟨(Nat.le_of_ble_eq_true rfl), (Nat.le_of_ble_eq_true rfl)⟩) hS (fun q _ h => hF q h) hF (fun r u273 t H locs ht hvm hw hB hz1 hk1 hS => ?_)
    try dsimp only at hw hB
    obtain ⟨hP1, hD1⟩ := hB
    rw [ht] at hP1
    obtain ⟨hP, hD⟩ := post_j (ws' := [(h0, .inr (8, [.int 0, .int 0, .int 2, .ref h1, .ref h2, .int 0, .int 500, .int 0, .int 0, .int 0, .ref h3]))]) (wr := []) (w1 := [(h0, .inr (8, [.int 0, .int 0, .int 2, .ref h1, .ref h2, .int 0, .int 500, .int 0, .int 0, .int 0, .ref h3]))]) hP hD hF [0] rfl [] rfl (by decide) (by decide) hk1 hP1 hD1 [0] (by decide) rfl
    have hP : va_P D vwCl [(h0, .inr (8, [.int 0, .int 0, .int 2, .ref h1, .ref h2, .int 0, .int 500, .int 0, .int 0, .int 0, .ref h3]))] H := hP
    have hD : va_D A [(h0, .inr (8, [.int 0, .int 0, .int 2, .ref h1, .ref h2, .int 0, .int 500, .int 0, .int 0, .int 0, .ref h3]))] := hD
    rw [hw]
    have hP9 := hP.sub (ws' := [(h0, .inr (8, [.int 0, .int 0, .int 2, .ref h1, .ref h2, .int 0, .int 500, .int 0, .int 0, .int 0, .ref h3]))]) [0] rfl
    have hD9 := hD.sub (ws' := [(h0, .inr (8, [.int 0, .int 0, .int 2, .ref h1, .ref h2, .int 0, .int 500, .int 0, .int 0, .int 0, .ref h3]))]) [0] (by decide) rfl
    exact W.iret (v := ((13312 + ((1024 * (122 - (p0).toInt64)) / 61))).toInt32) hx hb hr (fun t ht hW => ⟨⟨((13312 + ((1024 * (122 - (p0).toInt64)) / 61))).toInt32, [.int 0, .int 0, .int 2, .ref h1, .ref h2, .int 0, .int 500, .int 0, .int 0, .int 0, .ref h3], rfl, ⟨c131, c132, c133, c134, c135, c136, c137, c138, c139, c140, c141, c142, c143, c144, c145, c146, rfl, rfl⟩, by rw [ht]; exact hP9, hD9⟩, hS.F ht⟩) hS.2.2 dX6_costOf_9
  · skip
    rw [hv165]
    exact absurd (iv174 _ hf1) c163
  · skip
    rw [hv184]
    exact absurd (iv174 _ hf1) c181
  · skip
    rw [hv204]
    exact absurd (iv174 _ hf1) c200
  · skip
    rw [hv225]
    exact absurd (iv174 _ hf1) c220
  · skip
    rw [hv247]
    exact absurd (iv174 _ hf1) c241
  · skip
    rw [hv269]
    exact absurd (iv174 _ hf1) c263
  · skip
    exact absurd (iv160 _ hf0) c271
  · skip
    exact absurd (iv159 _ hf1) c272

theorem iv175 (x : Int32) (h0 : 0 < (lg_cmp (x).toInt64 61)) : 0 < x := by
  have e0 : (0 : Int32).toInt = 0 := by decide
  have e1 : (61 : Int32).toInt = 61 := by decide
  have f0 : (0 : Int64).toInt = 0 := by decide
  have f1 : (61 : Int64).toInt = 61 := by decide
  simp only [lg_cmp_lt0, lg_cmp_le0, lg_cmp_gt0, lg_cmp_ge0, lg_cmp_eq0] at *
  simp only [Int64.lt_iff_toInt_lt, Int64.le_iff_toInt_le, ← Int64.toInt_inj, Int32.toInt_toInt64, Int32.lt_iff_toInt_lt, Int32.le_iff_toInt_le, ← Int32.toInt_inj, e0, e1, f0, f1] at *
  omega

theorem iv176 (x : Int32) (h0 : ¬ 0 < (lg_cmp (x).toInt64 122)) : x ≤ 122 := by
  have e0 : (0 : Int32).toInt = 0 := by decide
  have e1 : (122 : Int32).toInt = 122 := by decide
  have f0 : (0 : Int64).toInt = 0 := by decide
  have f1 : (122 : Int64).toInt = 122 := by decide
  simp only [lg_cmp_lt0, lg_cmp_le0, lg_cmp_gt0, lg_cmp_ge0, lg_cmp_eq0] at *
  simp only [Int64.lt_iff_toInt_lt, Int64.le_iff_toInt_le, ← Int64.toInt_inj, Int32.toInt_toInt64, Int32.lt_iff_toInt_lt, Int32.le_iff_toInt_le, ← Int32.toInt_inj, e0, e1, f0, f1] at *
  omega

theorem iv177 (x : Int32) (h0 : 30 < x) : 0 < (lg_cmp (x).toInt64 0) := by
  have e0 : (0 : Int32).toInt = 0 := by decide
  have e1 : (30 : Int32).toInt = 30 := by decide
  have f0 : (0 : Int64).toInt = 0 := by decide
  have f1 : (30 : Int64).toInt = 30 := by decide
  simp only [lg_cmp_lt0, lg_cmp_le0, lg_cmp_gt0, lg_cmp_ge0, lg_cmp_eq0] at *
  simp only [Int64.lt_iff_toInt_lt, Int64.le_iff_toInt_le, ← Int64.toInt_inj, Int32.toInt_toInt64, Int32.lt_iff_toInt_lt, Int32.le_iff_toInt_le, ← Int32.toInt_inj, e0, e1, f0, f1] at *
  omega

theorem iv178 (x : Int32) (h0 : ¬ 61 < x) : (lg_cmp (x).toInt64 1000000) < 0 := by
  have e0 : (0 : Int32).toInt = 0 := by decide
  have e1 : (61 : Int32).toInt = 61 := by decide
  have e2 : (1000000 : Int32).toInt = 1000000 := by decide
  have f0 : (0 : Int64).toInt = 0 := by decide
  have f1 : (61 : Int64).toInt = 61 := by decide
  have f2 : (1000000 : Int64).toInt = 1000000 := by decide
  simp only [lg_cmp_lt0, lg_cmp_le0, lg_cmp_gt0, lg_cmp_ge0, lg_cmp_eq0] at *
  simp only [Int64.lt_iff_toInt_lt, Int64.le_iff_toInt_le, ← Int64.toInt_inj, Int32.toInt_toInt64, Int32.lt_iff_toInt_lt, Int32.le_iff_toInt_le, ← Int32.toInt_inj, e0, e1, e2, f0, f1, f2] at *
  omega

theorem iv179 (x : Int32) (h0 : ¬ 61 < x) : ¬ 0 < (lg_cmp (x).toInt64 500000) := by
  have e0 : (0 : Int32).toInt = 0 := by decide
  have e1 : (61 : Int32).toInt = 61 := by decide
  have e2 : (500000 : Int32).toInt = 500000 := by decide
  have f0 : (0 : Int64).toInt = 0 := by decide
  have f1 : (61 : Int64).toInt = 61 := by decide
  have f2 : (500000 : Int64).toInt = 500000 := by decide
  simp only [lg_cmp_lt0, lg_cmp_le0, lg_cmp_gt0, lg_cmp_ge0, lg_cmp_eq0] at *
  simp only [Int64.lt_iff_toInt_lt, Int64.le_iff_toInt_le, ← Int64.toInt_inj, Int32.toInt_toInt64, Int32.lt_iff_toInt_lt, Int32.le_iff_toInt_le, ← Int32.toInt_inj, e0, e1, e2, f0, f1, f2] at *
  omega

theorem iv180 (x : Int32) (h0 : ¬ 61 < x) : ¬ 0 < (lg_cmp (x).toInt64 250000) := by
  have e0 : (0 : Int32).toInt = 0 := by decide
  have e1 : (61 : Int32).toInt = 61 := by decide
  have e2 : (250000 : Int32).toInt = 250000 := by decide
  have f0 : (0 : Int64).toInt = 0 := by decide
  have f1 : (61 : Int64).toInt = 61 := by decide
  have f2 : (250000 : Int64).toInt = 250000 := by decide
  simp only [lg_cmp_lt0, lg_cmp_le0, lg_cmp_gt0, lg_cmp_ge0, lg_cmp_eq0] at *
  simp only [Int64.lt_iff_toInt_lt, Int64.le_iff_toInt_le, ← Int64.toInt_inj, Int32.toInt_toInt64, Int32.lt_iff_toInt_lt, Int32.le_iff_toInt_le, ← Int32.toInt_inj, e0, e1, e2, f0, f1, f2] at *
  omega

theorem iv181 (x : Int32) (h0 : ¬ 61 < x) : ¬ 0 < (lg_cmp (x).toInt64 125000) := by
  have e0 : (0 : Int32).toInt = 0 := by decide
  have e1 : (61 : Int32).toInt = 61 := by decide
  have e2 : (125000 : Int32).toInt = 125000 := by decide
  have f0 : (0 : Int64).toInt = 0 := by decide
  have f1 : (61 : Int64).toInt = 61 := by decide
  have f2 : (125000 : Int64).toInt = 125000 := by decide
  simp only [lg_cmp_lt0, lg_cmp_le0, lg_cmp_gt0, lg_cmp_ge0, lg_cmp_eq0] at *
  simp only [Int64.lt_iff_toInt_lt, Int64.le_iff_toInt_le, ← Int64.toInt_inj, Int32.toInt_toInt64, Int32.lt_iff_toInt_lt, Int32.le_iff_toInt_le, ← Int32.toInt_inj, e0, e1, e2, f0, f1, f2] at *
  omega

theorem iv182 (x : Int32) (h0 : ¬ 61 < x) : ¬ 0 < (lg_cmp (x).toInt64 62500) := by
  have e0 : (0 : Int32).toInt = 0 := by decide
  have e1 : (61 : Int32).toInt = 61 := by decide
  have e2 : (62500 : Int32).toInt = 62500 := by decide
  have f0 : (0 : Int64).toInt = 0 := by decide
  have f1 : (61 : Int64).toInt = 61 := by decide
  have f2 : (62500 : Int64).toInt = 62500 := by decide
  simp only [lg_cmp_lt0, lg_cmp_le0, lg_cmp_gt0, lg_cmp_ge0, lg_cmp_eq0] at *
  simp only [Int64.lt_iff_toInt_lt, Int64.le_iff_toInt_le, ← Int64.toInt_inj, Int32.toInt_toInt64, Int32.lt_iff_toInt_lt, Int32.le_iff_toInt_le, ← Int32.toInt_inj, e0, e1, e2, f0, f1, f2] at *
  omega

theorem iv183 (x : Int32) (h0 : ¬ 61 < x) : ¬ 0 < (lg_cmp (x).toInt64 31250) := by
  have e0 : (0 : Int32).toInt = 0 := by decide
  have e1 : (61 : Int32).toInt = 61 := by decide
  have e2 : (31250 : Int32).toInt = 31250 := by decide
  have f0 : (0 : Int64).toInt = 0 := by decide
  have f1 : (61 : Int64).toInt = 61 := by decide
  have f2 : (31250 : Int64).toInt = 31250 := by decide
  simp only [lg_cmp_lt0, lg_cmp_le0, lg_cmp_gt0, lg_cmp_ge0, lg_cmp_eq0] at *
  simp only [Int64.lt_iff_toInt_lt, Int64.le_iff_toInt_le, ← Int64.toInt_inj, Int32.toInt_toInt64, Int32.lt_iff_toInt_lt, Int32.le_iff_toInt_le, ← Int32.toInt_inj, e0, e1, e2, f0, f1, f2] at *
  omega

theorem iv184 (x : Int32) (h0 : ¬ 61 < x) : ¬ 0 < (lg_cmp (x).toInt64 15625) := by
  have e0 : (0 : Int32).toInt = 0 := by decide
  have e1 : (61 : Int32).toInt = 61 := by decide
  have e2 : (15625 : Int32).toInt = 15625 := by decide
  have f0 : (0 : Int64).toInt = 0 := by decide
  have f1 : (61 : Int64).toInt = 61 := by decide
  have f2 : (15625 : Int64).toInt = 15625 := by decide
  simp only [lg_cmp_lt0, lg_cmp_le0, lg_cmp_gt0, lg_cmp_ge0, lg_cmp_eq0] at *
  simp only [Int64.lt_iff_toInt_lt, Int64.le_iff_toInt_le, ← Int64.toInt_inj, Int32.toInt_toInt64, Int32.lt_iff_toInt_lt, Int32.le_iff_toInt_le, ← Int32.toInt_inj, e0, e1, e2, f0, f1, f2] at *
  omega

theorem iv185 (x : Int32) (h0 : ¬ 61 < x) : ¬ 0 < (lg_cmp (x).toInt64 7812) := by
  have e0 : (0 : Int32).toInt = 0 := by decide
  have e1 : (61 : Int32).toInt = 61 := by decide
  have e2 : (7812 : Int32).toInt = 7812 := by decide
  have f0 : (0 : Int64).toInt = 0 := by decide
  have f1 : (61 : Int64).toInt = 61 := by decide
  have f2 : (7812 : Int64).toInt = 7812 := by decide
  simp only [lg_cmp_lt0, lg_cmp_le0, lg_cmp_gt0, lg_cmp_ge0, lg_cmp_eq0] at *
  simp only [Int64.lt_iff_toInt_lt, Int64.le_iff_toInt_le, ← Int64.toInt_inj, Int32.toInt_toInt64, Int32.lt_iff_toInt_lt, Int32.le_iff_toInt_le, ← Int32.toInt_inj, e0, e1, e2, f0, f1, f2] at *
  omega

theorem iv186 (x : Int32) (h0 : ¬ 61 < x) : ¬ 0 < (lg_cmp (x).toInt64 3906) := by
  have e0 : (0 : Int32).toInt = 0 := by decide
  have e1 : (61 : Int32).toInt = 61 := by decide
  have e2 : (3906 : Int32).toInt = 3906 := by decide
  have f0 : (0 : Int64).toInt = 0 := by decide
  have f1 : (61 : Int64).toInt = 61 := by decide
  have f2 : (3906 : Int64).toInt = 3906 := by decide
  simp only [lg_cmp_lt0, lg_cmp_le0, lg_cmp_gt0, lg_cmp_ge0, lg_cmp_eq0] at *
  simp only [Int64.lt_iff_toInt_lt, Int64.le_iff_toInt_le, ← Int64.toInt_inj, Int32.toInt_toInt64, Int32.lt_iff_toInt_lt, Int32.le_iff_toInt_le, ← Int32.toInt_inj, e0, e1, e2, f0, f1, f2] at *
  omega

theorem iv187 (x : Int32) (h0 : ¬ 61 < x) : ¬ 0 < (lg_cmp (x).toInt64 1953) := by
  have e0 : (0 : Int32).toInt = 0 := by decide
  have e1 : (61 : Int32).toInt = 61 := by decide
  have e2 : (1953 : Int32).toInt = 1953 := by decide
  have f0 : (0 : Int64).toInt = 0 := by decide
  have f1 : (61 : Int64).toInt = 61 := by decide
  have f2 : (1953 : Int64).toInt = 1953 := by decide
  simp only [lg_cmp_lt0, lg_cmp_le0, lg_cmp_gt0, lg_cmp_ge0, lg_cmp_eq0] at *
  simp only [Int64.lt_iff_toInt_lt, Int64.le_iff_toInt_le, ← Int64.toInt_inj, Int32.toInt_toInt64, Int32.lt_iff_toInt_lt, Int32.le_iff_toInt_le, ← Int32.toInt_inj, e0, e1, e2, f0, f1, f2] at *
  omega

theorem iv188 (x : Int32) (h0 : ¬ 61 < x) : ¬ 0 < (lg_cmp (x).toInt64 976) := by
  have e0 : (0 : Int32).toInt = 0 := by decide
  have e1 : (61 : Int32).toInt = 61 := by decide
  have e2 : (976 : Int32).toInt = 976 := by decide
  have f0 : (0 : Int64).toInt = 0 := by decide
  have f1 : (61 : Int64).toInt = 61 := by decide
  have f2 : (976 : Int64).toInt = 976 := by decide
  simp only [lg_cmp_lt0, lg_cmp_le0, lg_cmp_gt0, lg_cmp_ge0, lg_cmp_eq0] at *
  simp only [Int64.lt_iff_toInt_lt, Int64.le_iff_toInt_le, ← Int64.toInt_inj, Int32.toInt_toInt64, Int32.lt_iff_toInt_lt, Int32.le_iff_toInt_le, ← Int32.toInt_inj, e0, e1, e2, f0, f1, f2] at *
  omega

theorem iv189 (x : Int32) (h0 : ¬ 61 < x) : ¬ 0 < (lg_cmp (x).toInt64 488) := by
  have e0 : (0 : Int32).toInt = 0 := by decide
  have e1 : (61 : Int32).toInt = 61 := by decide
  have e2 : (488 : Int32).toInt = 488 := by decide
  have f0 : (0 : Int64).toInt = 0 := by decide
  have f1 : (61 : Int64).toInt = 61 := by decide
  have f2 : (488 : Int64).toInt = 488 := by decide
  simp only [lg_cmp_lt0, lg_cmp_le0, lg_cmp_gt0, lg_cmp_ge0, lg_cmp_eq0] at *
  simp only [Int64.lt_iff_toInt_lt, Int64.le_iff_toInt_le, ← Int64.toInt_inj, Int32.toInt_toInt64, Int32.lt_iff_toInt_lt, Int32.le_iff_toInt_le, ← Int32.toInt_inj, e0, e1, e2, f0, f1, f2] at *
  omega

theorem iv190 (x : Int32) (h0 : ¬ 61 < x) : ¬ 0 < (lg_cmp (x).toInt64 244) := by
  have e0 : (0 : Int32).toInt = 0 := by decide
  have e1 : (61 : Int32).toInt = 61 := by decide
  have e2 : (244 : Int32).toInt = 244 := by decide
  have f0 : (0 : Int64).toInt = 0 := by decide
  have f1 : (61 : Int64).toInt = 61 := by decide
  have f2 : (244 : Int64).toInt = 244 := by decide
  simp only [lg_cmp_lt0, lg_cmp_le0, lg_cmp_gt0, lg_cmp_ge0, lg_cmp_eq0] at *
  simp only [Int64.lt_iff_toInt_lt, Int64.le_iff_toInt_le, ← Int64.toInt_inj, Int32.toInt_toInt64, Int32.lt_iff_toInt_lt, Int32.le_iff_toInt_le, ← Int32.toInt_inj, e0, e1, e2, f0, f1, f2] at *
  omega

theorem iv191 (x : Int32) (h0 : ¬ 61 < x) : ¬ 0 < (lg_cmp (x).toInt64 122) := by
  have e0 : (0 : Int32).toInt = 0 := by decide
  have e1 : (61 : Int32).toInt = 61 := by decide
  have e2 : (122 : Int32).toInt = 122 := by decide
  have f0 : (0 : Int64).toInt = 0 := by decide
  have f1 : (61 : Int64).toInt = 61 := by decide
  have f2 : (122 : Int64).toInt = 122 := by decide
  simp only [lg_cmp_lt0, lg_cmp_le0, lg_cmp_gt0, lg_cmp_ge0, lg_cmp_eq0] at *
  simp only [Int64.lt_iff_toInt_lt, Int64.le_iff_toInt_le, ← Int64.toInt_inj, Int32.toInt_toInt64, Int32.lt_iff_toInt_lt, Int32.le_iff_toInt_le, ← Int32.toInt_inj, e0, e1, e2, f0, f1, f2] at *
  omega

theorem iv192 (x : Int32) (h0 : ¬ 61 < x) : ¬ 0 < (lg_cmp (x).toInt64 61) := by
  have e0 : (0 : Int32).toInt = 0 := by decide
  have e1 : (61 : Int32).toInt = 61 := by decide
  have f0 : (0 : Int64).toInt = 0 := by decide
  have f1 : (61 : Int64).toInt = 61 := by decide
  simp only [lg_cmp_lt0, lg_cmp_le0, lg_cmp_gt0, lg_cmp_ge0, lg_cmp_eq0] at *
  simp only [Int64.lt_iff_toInt_lt, Int64.le_iff_toInt_le, ← Int64.toInt_inj, Int32.toInt_toInt64, Int32.lt_iff_toInt_lt, Int32.le_iff_toInt_le, ← Int32.toInt_inj, e0, e1, f0, f1] at *
  omega

theorem iv193 (x : Int32) (h0 : 30 < x) : 0 < (lg_cmp (x).toInt64 30) := by
  have e0 : (0 : Int32).toInt = 0 := by decide
  have e1 : (30 : Int32).toInt = 30 := by decide
  have f0 : (0 : Int64).toInt = 0 := by decide
  have f1 : (30 : Int64).toInt = 30 := by decide
  simp only [lg_cmp_lt0, lg_cmp_le0, lg_cmp_gt0, lg_cmp_ge0, lg_cmp_eq0] at *
  simp only [Int64.lt_iff_toInt_lt, Int64.le_iff_toInt_le, ← Int64.toInt_inj, Int32.toInt_toInt64, Int32.lt_iff_toInt_lt, Int32.le_iff_toInt_le, ← Int32.toInt_inj, e0, e1, f0, f1] at *
  omega

set_option maxHeartbeats 4000000 in
set_option maxRecDepth 100000 in
theorem k_X6_costOf_14 (l : Launch) (D : va_G) (κ ε : Nat → Nat) (h0 h1 h2 h3 : Nat) (sz : Nat) (p0 : Int32) (hf0 : ¬ 61 < p0) (hf1 : 30 < p0) : Met l yX6_costOf wsX6_costOf ({ frames := 1, cells := 0, slots := 0, locals := 26 }) (va_Pc [.ref h0, .int p0] (Pre2 D κ ε [(h0, .inr (8, [.int 0, .int 0, .int 2, .ref h1, .ref h2, .int 0, .int 500, .int 0, .int 0, .int 0, .ref h3]))] sz)) (va_Qi (fun r (u : List Value) => (0 < (lg_cmp (p0).toInt64 0)) ∧ ((lg_cmp (p0).toInt64 1000000) < 0) ∧ (¬ 0 < (lg_cmp (p0).toInt64 500000)) ∧ (¬ 0 < (lg_cmp (p0).toInt64 250000)) ∧ (¬ 0 < (lg_cmp (p0).toInt64 125000)) ∧ (¬ 0 < (lg_cmp (p0).toInt64 62500)) ∧ (¬ 0 < (lg_cmp (p0).toInt64 31250)) ∧ (¬ 0 < (lg_cmp (p0).toInt64 15625)) ∧ (¬ 0 < (lg_cmp (p0).toInt64 7812)) ∧ (¬ 0 < (lg_cmp (p0).toInt64 3906)) ∧ (¬ 0 < (lg_cmp (p0).toInt64 1953)) ∧ (¬ 0 < (lg_cmp (p0).toInt64 976)) ∧ (¬ 0 < (lg_cmp (p0).toInt64 488)) ∧ (¬ 0 < (lg_cmp (p0).toInt64 244)) ∧ (¬ 0 < (lg_cmp (p0).toInt64 122)) ∧ (¬ 0 < (lg_cmp (p0).toInt64 61)) ∧ (0 < (lg_cmp (p0).toInt64 30)) ∧ (u[0]? = some (.int 0)) ∧ (r = ((14336 + ((1024 * (61 - (p0).toInt64)) / 31))).toInt32)) (fun u t => va_P D vwCl [(h0, .inr (8, u))] t.heap ∧ va_D (va_A [(h0, .inr (8, [.int 0, .int 0, .int 2, .ref h1, .ref h2, .int 0, .int 500, .int 0, .int 0, .int 0, .ref h3]))] sz) [(h0, .inr (8, u))]) (va_A [(h0, .inr (8, [.int 0, .int 0, .int 2, .ref h1, .ref h2, .int 0, .int 500, .int 0, .int 0, .int 0, .ref h3]))] sz)) 0 0 (va_A [(h0, .inr (8, [.int 0, .int 0, .int 2, .ref h1, .ref h2, .int 0, .int 500, .int 0, .int 0, .int 0, .ref h3]))] sz) := by
  refine Met.ofW (cc := cX6_costOf) (maxL := 2) (ret := (some .int)) (by decide) rfl ?_
  intro p e s m args below meth c s₁ B hml hv
  obtain ⟨rfl, hsz, hP, hK, hD0, hE9⟩ := hv
  have hx := B.exec
  have hb := B.bytes
  have hr := B.returns
  have hts := atoms_spec (ws := wsX6_costOf) B.pre
  have hown : s.vm.findClass RX6 = some m.cls := findClass_of_methodNamed B.named
  have hlocks := B.notSynchronized
  subst hsz
  have hD := hD0.self (sz := s.heap.size)
  generalize hAe : va_A [(h0, .inr (8, [.int 0, .int 0, .int 2, .ref h1, .ref h2, .int 0, .int 500, .int 0, .int 0, .int 0, .ref h3]))] s.heap.size = A at hD hE9 ⊢
  have hE := hE9.1
  have hDc := hE9.2
  have hA : ∀ q : Nat, s.heap.size ≤ q → A q := fun q h => by rw [← hAe]; exact Or.inr h
  have hS : va_S A s.heap s.heap [] := va_S.rf
  have hP : va_P D vwCl [(h0, .inr (8, [.int 0, .int 0, .int 2, .ref h1, .ref h2, .int 0, .int 500, .int 0, .int 0, .int 0, .ref h3]))] s.heap := hP
  have hl := lv_entry [.ref h0, .int p0] (n := 2) (Nat.le_of_ble_eq_true rfl)
  rw [lg_entry_eq]
  generalize (lg_sl [.ref h0, .int p0] ++ List.replicate (2 - (lg_sl [.ref h0, .int p0]).length) Slot.unset).toArray = ls at hl ⊢
  have hl : lv_has ls 2 [(0, .ref h0), (1, .int p0)] := hl
  refine lv_aload_n hx hb dX6_costOf_0 rfl (lv_at hl 0 rfl) ?_
  refine lv_iload_n hx hb dX6_costOf_1 rfl (lv_at hl 1 rfl) ?_
  refine lv_i2l (v := (p0).toInt64) hx hb dX6_costOf_2 rfl ?_
  refine vp_callSi (W.runS (As := [.long (p0).toInt64]) (rest := [.ref h0]) ⟨hx, hb, hml, hown, hts⟩ (k_X6_cost_0 l D κ ε ((p0).toInt64)) (va_cwS 1 hts gX6_costOf_X6_cost rfl rfl rfl (by decide +kernel) ⟨(Nat.le_of_ble_eq_true rfl), (Nat.le_of_ble_eq_true rfl)⟩) (pre0_S (wc := []) hP hK [] rfl) rfl rfl hl.1 rfl (lv_room (Nat.le_of_ble_eq_true rfl)) dX6_costOf_3 ⟨(Nat.le_of_ble_eq_true rfl), (Nat.le_of_ble_eq_true rfl)⟩) (fun r hw => ?_)
  rcases hw with ⟨c1, c2, c3, hv4⟩ | ⟨c5, c6, c7, c8, hv9⟩ | ⟨c10, c11, c12, c13, c14, hv15⟩ | ⟨c16, c17, c18, c19, c20, c21, hv22⟩ | ⟨c23, c24, c25, c26, c27, c28, c29, hv30⟩ | ⟨c31, c32, c33, c34, c35, c36, c37, c38, hv39⟩ | ⟨c40, c41, c42, c43, c44, c45, c46, c47, c48, hv49⟩ | ⟨c50, c51, c52, c53, c54, c55, c56, c57, c58, c59, hv60⟩ | ⟨c61, c62, c63, c64, c65, c66, c67, c68, c69, c70, c71, hv72⟩ | ⟨c73, c74, c75, c76, c77, c78, c79, c80, c81, c82, c83, c84, hv85⟩ | ⟨c86, c87, c88, c89, c90, c91, c92, c93, c94, c95, c96, c97, c98, hv99⟩ | ⟨c100, c101, c102, c103, c104, c105, c106, c107, c108, c109, c110, c111, c112, c113, hv114⟩ | ⟨c115, c116, c117, c118, c119, c120, c121, c122, c123, c124, c125, c126, c127, c128, c129, hv130⟩ | ⟨c131, c132, c133, c134, c135, c136, c137, c138, c139, c140, c141, c142, c143, c144, c145, c146, hv147⟩ | ⟨c148, c149, c150, c151, c152, c153, c154, c155, c156, c157, c158, c159, c160, c161, c162, c163, c164, hv165⟩ | ⟨c166, c167, c168, c169, c170, c171, c172, c173, c174, c175, c176, c177, c178, c179, c180, c181, c182, c183, hv184⟩ | ⟨c185, c186, c187, c188, c189, c190, c191, c192, c193, c194, c195, c196, c197, c198, c199, c200, c201, c202, c203, hv204⟩ | ⟨c205, c206, c207, c208, c209, c210, c211, c212, c213, c214, c215, c216, c217, c218, c219, c220, c221, c222, c223, c224, hv225⟩ | ⟨c226, c227, c228, c229, c230, c231, c232, c233, c234, c235, c236, c237, c238, c239, c240, c241, c242, c243, c244, c245, c246, hv247⟩ | ⟨c248, c249, c250, c251, c252, c253, c254, c255, c256, c257, c258, c259, c260, c261, c262, c263, c264, c265, c266, c267, c268, hv269⟩ | ⟨c270, c271, rfl⟩ | ⟨c272, rfl⟩
  · skip
    rw [hv4]
    exact absurd c3 (iv179 _ hf0)
  · skip
    rw [hv9]
    exact absurd c8 (iv180 _ hf0)
  · skip
    rw [hv15]
    exact absurd c14 (iv181 _ hf0)
  · skip
    rw [hv22]
    exact absurd c21 (iv182 _ hf0)
  · skip
    rw [hv30]
    exact absurd c29 (iv183 _ hf0)
  · skip
    rw [hv39]
    exact absurd c38 (iv184 _ hf0)
  · skip
    rw [hv49]
    exact absurd c48 (iv185 _ hf0)
  · skip
    rw [hv60]
    exact absurd c59 (iv186 _ hf0)
  · skip
    rw [hv72]
    exact absurd c71 (iv187 _ hf0)
  · skip
    rw [hv85]
    exact absurd c84 (iv188 _ hf0)
  · skip
    rw [hv99]
    exact absurd c98 (iv189 _ hf0)
  · skip
    rw [hv114]
    exact absurd c113 (iv190 _ hf0)
  · skip
    rw [hv130]
    exact absurd c129 (iv191 _ hf0)
  · skip
    rw [hv147]
    exact absurd c146 (iv192 _ hf0)
  · skip
    rw [hv165]
    have hF := va_free (wc := [(h0, .inr (8, [.int 0, .int 0, .int 2, .ref h1, .ref h2, .int 0, .int 500, .int 0, .int 0, .int 0, .ref h3]))]) hD hS hA [0] rfl
    refine va_calli (va_runV (As := [.int ((14336 + ((1024 * (61 - (p0).toInt64)) / 31))).toInt32]) (rest := []) ⟨hx, hb, hml, hown, hts⟩ (k_X6_plain_2 l D κ ε h0 h1 h2 h3 s.heap.size (((14336 + ((1024 * (61 - (p0).toInt64)) / 31))).toInt32) (0) (0) (2) (0) (500) (0) (0)) (cwV 1 hts gX6_costOf_X6_plain rfl rfl rfl (by decide +kernel) ⟨(Nat.le_of_ble_eq_true rfl), (Nat.le_of_ble_eq_true rfl)⟩) (pre2_V (q0 := 0) (ci := 8) (wc := [(h0, .inr (8, [.int 0, .int 0, .int 2, .ref h1, .ref h2, .int 0, .int 500, .int 0, .int 0, .int 0, .ref h3]))]) hP hD hK hE9 hS hA [0] (by decide) rfl rfl rfl) rfl rfl hl.1 rfl (lv_room (Nat.le_of_ble_eq_true rfl)) dX6_costOf_6 ⟨(Nat.le_of_ble_eq_true rfl), (Nat.le_of_ble_eq_true rfl)⟩) hS (fun q _ h => hF q h) hF (fun r u273 t H locs ht hvm hw hB hz1 hk1 hS => ?_)
    try dsimp only at hw hB
    obtain ⟨hP1, hD1⟩ := hB
    rw [ht] at hP1
    obtain ⟨hP, hD⟩ := post_j (ws' := [(h0, .inr (8, [.int 0, .int 0, .int 2, .ref h1, .ref h2, .int 0, .int 500, .int 0, .int 0, .int 0, .ref h3]))]) (wr := []) (w1 := [(h0, .inr (8, [.int 0, .int 0, .int 2, .ref h1, .ref h2, .int 0, .int 500, .int 0, .int 0, .int 0, .ref h3]))]) hP hD hF [0] rfl [] rfl (by decide) (by decide) hk1 hP1 hD1 [0] (by decide) rfl
    have hP : va_P D vwCl [(h0, .inr (8, [.int 0, .int 0, .int 2, .ref h1, .ref h2, .int 0, .int 500, .int 0, .int 0, .int 0, .ref h3]))] H := hP
    have hD : va_D A [(h0, .inr (8, [.int 0, .int 0, .int 2, .ref h1, .ref h2, .int 0, .int 500, .int 0, .int 0, .int 0, .ref h3]))] := hD
    rw [hw]
    have hP9 := hP.sub (ws' := [(h0, .inr (8, [.int 0, .int 0, .int 2, .ref h1, .ref h2, .int 0, .int 500, .int 0, .int 0, .int 0, .ref h3]))]) [0] rfl
    have hD9 := hD.sub (ws' := [(h0, .inr (8, [.int 0, .int 0, .int 2, .ref h1, .ref h2, .int 0, .int 500, .int 0, .int 0, .int 0, .ref h3]))]) [0] (by decide) rfl
    exact W.iret (v := ((14336 + ((1024 * (61 - (p0).toInt64)) / 31))).toInt32) hx hb hr (fun t ht hW => ⟨⟨((14336 + ((1024 * (61 - (p0).toInt64)) / 31))).toInt32, [.int 0, .int 0, .int 2, .ref h1, .ref h2, .int 0, .int 500, .int 0, .int 0, .int 0, .ref h3], rfl, ⟨c148, c149, c150, c151, c152, c153, c154, c155, c156, c157, c158, c159, c160, c161, c162, c163, c164, rfl, rfl⟩, by rw [ht]; exact hP9, hD9⟩, hS.F ht⟩) hS.2.2 dX6_costOf_9
  · skip
    rw [hv184]
    exact absurd (iv193 _ hf1) c182
  · skip
    rw [hv204]
    exact absurd (iv193 _ hf1) c201
  · skip
    rw [hv225]
    exact absurd (iv193 _ hf1) c221
  · skip
    rw [hv247]
    exact absurd (iv193 _ hf1) c242
  · skip
    rw [hv269]
    exact absurd (iv193 _ hf1) c264
  · skip
    exact absurd (iv178 _ hf0) c271
  · skip
    exact absurd (iv177 _ hf1) c272

theorem iv194 (x : Int32) (h0 : 0 < (lg_cmp (x).toInt64 30)) : 0 < x := by
  have e0 : (0 : Int32).toInt = 0 := by decide
  have e1 : (30 : Int32).toInt = 30 := by decide
  have f0 : (0 : Int64).toInt = 0 := by decide
  have f1 : (30 : Int64).toInt = 30 := by decide
  simp only [lg_cmp_lt0, lg_cmp_le0, lg_cmp_gt0, lg_cmp_ge0, lg_cmp_eq0] at *
  simp only [Int64.lt_iff_toInt_lt, Int64.le_iff_toInt_le, ← Int64.toInt_inj, Int32.toInt_toInt64, Int32.lt_iff_toInt_lt, Int32.le_iff_toInt_le, ← Int32.toInt_inj, e0, e1, f0, f1] at *
  omega

theorem iv195 (x : Int32) (h0 : ¬ 0 < (lg_cmp (x).toInt64 61)) : x ≤ 61 := by
  have e0 : (0 : Int32).toInt = 0 := by decide
  have e1 : (61 : Int32).toInt = 61 := by decide
  have f0 : (0 : Int64).toInt = 0 := by decide
  have f1 : (61 : Int64).toInt = 61 := by decide
  simp only [lg_cmp_lt0, lg_cmp_le0, lg_cmp_gt0, lg_cmp_ge0, lg_cmp_eq0] at *
  simp only [Int64.lt_iff_toInt_lt, Int64.le_iff_toInt_le, ← Int64.toInt_inj, Int32.toInt_toInt64, Int32.lt_iff_toInt_lt, Int32.le_iff_toInt_le, ← Int32.toInt_inj, e0, e1, f0, f1] at *
  omega

theorem iv196 (x : Int32) (h0 : 15 < x) : 0 < (lg_cmp (x).toInt64 0) := by
  have e0 : (0 : Int32).toInt = 0 := by decide
  have e1 : (15 : Int32).toInt = 15 := by decide
  have f0 : (0 : Int64).toInt = 0 := by decide
  have f1 : (15 : Int64).toInt = 15 := by decide
  simp only [lg_cmp_lt0, lg_cmp_le0, lg_cmp_gt0, lg_cmp_ge0, lg_cmp_eq0] at *
  simp only [Int64.lt_iff_toInt_lt, Int64.le_iff_toInt_le, ← Int64.toInt_inj, Int32.toInt_toInt64, Int32.lt_iff_toInt_lt, Int32.le_iff_toInt_le, ← Int32.toInt_inj, e0, e1, f0, f1] at *
  omega

theorem iv197 (x : Int32) (h0 : ¬ 30 < x) : (lg_cmp (x).toInt64 1000000) < 0 := by
  have e0 : (0 : Int32).toInt = 0 := by decide
  have e1 : (30 : Int32).toInt = 30 := by decide
  have e2 : (1000000 : Int32).toInt = 1000000 := by decide
  have f0 : (0 : Int64).toInt = 0 := by decide
  have f1 : (30 : Int64).toInt = 30 := by decide
  have f2 : (1000000 : Int64).toInt = 1000000 := by decide
  simp only [lg_cmp_lt0, lg_cmp_le0, lg_cmp_gt0, lg_cmp_ge0, lg_cmp_eq0] at *
  simp only [Int64.lt_iff_toInt_lt, Int64.le_iff_toInt_le, ← Int64.toInt_inj, Int32.toInt_toInt64, Int32.lt_iff_toInt_lt, Int32.le_iff_toInt_le, ← Int32.toInt_inj, e0, e1, e2, f0, f1, f2] at *
  omega

theorem iv198 (x : Int32) (h0 : ¬ 30 < x) : ¬ 0 < (lg_cmp (x).toInt64 500000) := by
  have e0 : (0 : Int32).toInt = 0 := by decide
  have e1 : (30 : Int32).toInt = 30 := by decide
  have e2 : (500000 : Int32).toInt = 500000 := by decide
  have f0 : (0 : Int64).toInt = 0 := by decide
  have f1 : (30 : Int64).toInt = 30 := by decide
  have f2 : (500000 : Int64).toInt = 500000 := by decide
  simp only [lg_cmp_lt0, lg_cmp_le0, lg_cmp_gt0, lg_cmp_ge0, lg_cmp_eq0] at *
  simp only [Int64.lt_iff_toInt_lt, Int64.le_iff_toInt_le, ← Int64.toInt_inj, Int32.toInt_toInt64, Int32.lt_iff_toInt_lt, Int32.le_iff_toInt_le, ← Int32.toInt_inj, e0, e1, e2, f0, f1, f2] at *
  omega

theorem iv199 (x : Int32) (h0 : ¬ 30 < x) : ¬ 0 < (lg_cmp (x).toInt64 250000) := by
  have e0 : (0 : Int32).toInt = 0 := by decide
  have e1 : (30 : Int32).toInt = 30 := by decide
  have e2 : (250000 : Int32).toInt = 250000 := by decide
  have f0 : (0 : Int64).toInt = 0 := by decide
  have f1 : (30 : Int64).toInt = 30 := by decide
  have f2 : (250000 : Int64).toInt = 250000 := by decide
  simp only [lg_cmp_lt0, lg_cmp_le0, lg_cmp_gt0, lg_cmp_ge0, lg_cmp_eq0] at *
  simp only [Int64.lt_iff_toInt_lt, Int64.le_iff_toInt_le, ← Int64.toInt_inj, Int32.toInt_toInt64, Int32.lt_iff_toInt_lt, Int32.le_iff_toInt_le, ← Int32.toInt_inj, e0, e1, e2, f0, f1, f2] at *
  omega

theorem iv200 (x : Int32) (h0 : ¬ 30 < x) : ¬ 0 < (lg_cmp (x).toInt64 125000) := by
  have e0 : (0 : Int32).toInt = 0 := by decide
  have e1 : (30 : Int32).toInt = 30 := by decide
  have e2 : (125000 : Int32).toInt = 125000 := by decide
  have f0 : (0 : Int64).toInt = 0 := by decide
  have f1 : (30 : Int64).toInt = 30 := by decide
  have f2 : (125000 : Int64).toInt = 125000 := by decide
  simp only [lg_cmp_lt0, lg_cmp_le0, lg_cmp_gt0, lg_cmp_ge0, lg_cmp_eq0] at *
  simp only [Int64.lt_iff_toInt_lt, Int64.le_iff_toInt_le, ← Int64.toInt_inj, Int32.toInt_toInt64, Int32.lt_iff_toInt_lt, Int32.le_iff_toInt_le, ← Int32.toInt_inj, e0, e1, e2, f0, f1, f2] at *
  omega

theorem iv201 (x : Int32) (h0 : ¬ 30 < x) : ¬ 0 < (lg_cmp (x).toInt64 62500) := by
  have e0 : (0 : Int32).toInt = 0 := by decide
  have e1 : (30 : Int32).toInt = 30 := by decide
  have e2 : (62500 : Int32).toInt = 62500 := by decide
  have f0 : (0 : Int64).toInt = 0 := by decide
  have f1 : (30 : Int64).toInt = 30 := by decide
  have f2 : (62500 : Int64).toInt = 62500 := by decide
  simp only [lg_cmp_lt0, lg_cmp_le0, lg_cmp_gt0, lg_cmp_ge0, lg_cmp_eq0] at *
  simp only [Int64.lt_iff_toInt_lt, Int64.le_iff_toInt_le, ← Int64.toInt_inj, Int32.toInt_toInt64, Int32.lt_iff_toInt_lt, Int32.le_iff_toInt_le, ← Int32.toInt_inj, e0, e1, e2, f0, f1, f2] at *
  omega

theorem iv202 (x : Int32) (h0 : ¬ 30 < x) : ¬ 0 < (lg_cmp (x).toInt64 31250) := by
  have e0 : (0 : Int32).toInt = 0 := by decide
  have e1 : (30 : Int32).toInt = 30 := by decide
  have e2 : (31250 : Int32).toInt = 31250 := by decide
  have f0 : (0 : Int64).toInt = 0 := by decide
  have f1 : (30 : Int64).toInt = 30 := by decide
  have f2 : (31250 : Int64).toInt = 31250 := by decide
  simp only [lg_cmp_lt0, lg_cmp_le0, lg_cmp_gt0, lg_cmp_ge0, lg_cmp_eq0] at *
  simp only [Int64.lt_iff_toInt_lt, Int64.le_iff_toInt_le, ← Int64.toInt_inj, Int32.toInt_toInt64, Int32.lt_iff_toInt_lt, Int32.le_iff_toInt_le, ← Int32.toInt_inj, e0, e1, e2, f0, f1, f2] at *
  omega

theorem iv203 (x : Int32) (h0 : ¬ 30 < x) : ¬ 0 < (lg_cmp (x).toInt64 15625) := by
  have e0 : (0 : Int32).toInt = 0 := by decide
  have e1 : (30 : Int32).toInt = 30 := by decide
  have e2 : (15625 : Int32).toInt = 15625 := by decide
  have f0 : (0 : Int64).toInt = 0 := by decide
  have f1 : (30 : Int64).toInt = 30 := by decide
  have f2 : (15625 : Int64).toInt = 15625 := by decide
  simp only [lg_cmp_lt0, lg_cmp_le0, lg_cmp_gt0, lg_cmp_ge0, lg_cmp_eq0] at *
  simp only [Int64.lt_iff_toInt_lt, Int64.le_iff_toInt_le, ← Int64.toInt_inj, Int32.toInt_toInt64, Int32.lt_iff_toInt_lt, Int32.le_iff_toInt_le, ← Int32.toInt_inj, e0, e1, e2, f0, f1, f2] at *
  omega

theorem iv204 (x : Int32) (h0 : ¬ 30 < x) : ¬ 0 < (lg_cmp (x).toInt64 7812) := by
  have e0 : (0 : Int32).toInt = 0 := by decide
  have e1 : (30 : Int32).toInt = 30 := by decide
  have e2 : (7812 : Int32).toInt = 7812 := by decide
  have f0 : (0 : Int64).toInt = 0 := by decide
  have f1 : (30 : Int64).toInt = 30 := by decide
  have f2 : (7812 : Int64).toInt = 7812 := by decide
  simp only [lg_cmp_lt0, lg_cmp_le0, lg_cmp_gt0, lg_cmp_ge0, lg_cmp_eq0] at *
  simp only [Int64.lt_iff_toInt_lt, Int64.le_iff_toInt_le, ← Int64.toInt_inj, Int32.toInt_toInt64, Int32.lt_iff_toInt_lt, Int32.le_iff_toInt_le, ← Int32.toInt_inj, e0, e1, e2, f0, f1, f2] at *
  omega

theorem iv205 (x : Int32) (h0 : ¬ 30 < x) : ¬ 0 < (lg_cmp (x).toInt64 3906) := by
  have e0 : (0 : Int32).toInt = 0 := by decide
  have e1 : (30 : Int32).toInt = 30 := by decide
  have e2 : (3906 : Int32).toInt = 3906 := by decide
  have f0 : (0 : Int64).toInt = 0 := by decide
  have f1 : (30 : Int64).toInt = 30 := by decide
  have f2 : (3906 : Int64).toInt = 3906 := by decide
  simp only [lg_cmp_lt0, lg_cmp_le0, lg_cmp_gt0, lg_cmp_ge0, lg_cmp_eq0] at *
  simp only [Int64.lt_iff_toInt_lt, Int64.le_iff_toInt_le, ← Int64.toInt_inj, Int32.toInt_toInt64, Int32.lt_iff_toInt_lt, Int32.le_iff_toInt_le, ← Int32.toInt_inj, e0, e1, e2, f0, f1, f2] at *
  omega

theorem iv206 (x : Int32) (h0 : ¬ 30 < x) : ¬ 0 < (lg_cmp (x).toInt64 1953) := by
  have e0 : (0 : Int32).toInt = 0 := by decide
  have e1 : (30 : Int32).toInt = 30 := by decide
  have e2 : (1953 : Int32).toInt = 1953 := by decide
  have f0 : (0 : Int64).toInt = 0 := by decide
  have f1 : (30 : Int64).toInt = 30 := by decide
  have f2 : (1953 : Int64).toInt = 1953 := by decide
  simp only [lg_cmp_lt0, lg_cmp_le0, lg_cmp_gt0, lg_cmp_ge0, lg_cmp_eq0] at *
  simp only [Int64.lt_iff_toInt_lt, Int64.le_iff_toInt_le, ← Int64.toInt_inj, Int32.toInt_toInt64, Int32.lt_iff_toInt_lt, Int32.le_iff_toInt_le, ← Int32.toInt_inj, e0, e1, e2, f0, f1, f2] at *
  omega

theorem iv207 (x : Int32) (h0 : ¬ 30 < x) : ¬ 0 < (lg_cmp (x).toInt64 976) := by
  have e0 : (0 : Int32).toInt = 0 := by decide
  have e1 : (30 : Int32).toInt = 30 := by decide
  have e2 : (976 : Int32).toInt = 976 := by decide
  have f0 : (0 : Int64).toInt = 0 := by decide
  have f1 : (30 : Int64).toInt = 30 := by decide
  have f2 : (976 : Int64).toInt = 976 := by decide
  simp only [lg_cmp_lt0, lg_cmp_le0, lg_cmp_gt0, lg_cmp_ge0, lg_cmp_eq0] at *
  simp only [Int64.lt_iff_toInt_lt, Int64.le_iff_toInt_le, ← Int64.toInt_inj, Int32.toInt_toInt64, Int32.lt_iff_toInt_lt, Int32.le_iff_toInt_le, ← Int32.toInt_inj, e0, e1, e2, f0, f1, f2] at *
  omega

theorem iv208 (x : Int32) (h0 : ¬ 30 < x) : ¬ 0 < (lg_cmp (x).toInt64 488) := by
  have e0 : (0 : Int32).toInt = 0 := by decide
  have e1 : (30 : Int32).toInt = 30 := by decide
  have e2 : (488 : Int32).toInt = 488 := by decide
  have f0 : (0 : Int64).toInt = 0 := by decide
  have f1 : (30 : Int64).toInt = 30 := by decide
  have f2 : (488 : Int64).toInt = 488 := by decide
  simp only [lg_cmp_lt0, lg_cmp_le0, lg_cmp_gt0, lg_cmp_ge0, lg_cmp_eq0] at *
  simp only [Int64.lt_iff_toInt_lt, Int64.le_iff_toInt_le, ← Int64.toInt_inj, Int32.toInt_toInt64, Int32.lt_iff_toInt_lt, Int32.le_iff_toInt_le, ← Int32.toInt_inj, e0, e1, e2, f0, f1, f2] at *
  omega

theorem iv209 (x : Int32) (h0 : ¬ 30 < x) : ¬ 0 < (lg_cmp (x).toInt64 244) := by
  have e0 : (0 : Int32).toInt = 0 := by decide
  have e1 : (30 : Int32).toInt = 30 := by decide
  have e2 : (244 : Int32).toInt = 244 := by decide
  have f0 : (0 : Int64).toInt = 0 := by decide
  have f1 : (30 : Int64).toInt = 30 := by decide
  have f2 : (244 : Int64).toInt = 244 := by decide
  simp only [lg_cmp_lt0, lg_cmp_le0, lg_cmp_gt0, lg_cmp_ge0, lg_cmp_eq0] at *
  simp only [Int64.lt_iff_toInt_lt, Int64.le_iff_toInt_le, ← Int64.toInt_inj, Int32.toInt_toInt64, Int32.lt_iff_toInt_lt, Int32.le_iff_toInt_le, ← Int32.toInt_inj, e0, e1, e2, f0, f1, f2] at *
  omega

theorem iv210 (x : Int32) (h0 : ¬ 30 < x) : ¬ 0 < (lg_cmp (x).toInt64 122) := by
  have e0 : (0 : Int32).toInt = 0 := by decide
  have e1 : (30 : Int32).toInt = 30 := by decide
  have e2 : (122 : Int32).toInt = 122 := by decide
  have f0 : (0 : Int64).toInt = 0 := by decide
  have f1 : (30 : Int64).toInt = 30 := by decide
  have f2 : (122 : Int64).toInt = 122 := by decide
  simp only [lg_cmp_lt0, lg_cmp_le0, lg_cmp_gt0, lg_cmp_ge0, lg_cmp_eq0] at *
  simp only [Int64.lt_iff_toInt_lt, Int64.le_iff_toInt_le, ← Int64.toInt_inj, Int32.toInt_toInt64, Int32.lt_iff_toInt_lt, Int32.le_iff_toInt_le, ← Int32.toInt_inj, e0, e1, e2, f0, f1, f2] at *
  omega

theorem iv211 (x : Int32) (h0 : ¬ 30 < x) : ¬ 0 < (lg_cmp (x).toInt64 61) := by
  have e0 : (0 : Int32).toInt = 0 := by decide
  have e1 : (30 : Int32).toInt = 30 := by decide
  have e2 : (61 : Int32).toInt = 61 := by decide
  have f0 : (0 : Int64).toInt = 0 := by decide
  have f1 : (30 : Int64).toInt = 30 := by decide
  have f2 : (61 : Int64).toInt = 61 := by decide
  simp only [lg_cmp_lt0, lg_cmp_le0, lg_cmp_gt0, lg_cmp_ge0, lg_cmp_eq0] at *
  simp only [Int64.lt_iff_toInt_lt, Int64.le_iff_toInt_le, ← Int64.toInt_inj, Int32.toInt_toInt64, Int32.lt_iff_toInt_lt, Int32.le_iff_toInt_le, ← Int32.toInt_inj, e0, e1, e2, f0, f1, f2] at *
  omega

theorem iv212 (x : Int32) (h0 : ¬ 30 < x) : ¬ 0 < (lg_cmp (x).toInt64 30) := by
  have e0 : (0 : Int32).toInt = 0 := by decide
  have e1 : (30 : Int32).toInt = 30 := by decide
  have f0 : (0 : Int64).toInt = 0 := by decide
  have f1 : (30 : Int64).toInt = 30 := by decide
  simp only [lg_cmp_lt0, lg_cmp_le0, lg_cmp_gt0, lg_cmp_ge0, lg_cmp_eq0] at *
  simp only [Int64.lt_iff_toInt_lt, Int64.le_iff_toInt_le, ← Int64.toInt_inj, Int32.toInt_toInt64, Int32.lt_iff_toInt_lt, Int32.le_iff_toInt_le, ← Int32.toInt_inj, e0, e1, f0, f1] at *
  omega

theorem iv213 (x : Int32) (h0 : 15 < x) : 0 < (lg_cmp (x).toInt64 15) := by
  have e0 : (0 : Int32).toInt = 0 := by decide
  have e1 : (15 : Int32).toInt = 15 := by decide
  have f0 : (0 : Int64).toInt = 0 := by decide
  have f1 : (15 : Int64).toInt = 15 := by decide
  simp only [lg_cmp_lt0, lg_cmp_le0, lg_cmp_gt0, lg_cmp_ge0, lg_cmp_eq0] at *
  simp only [Int64.lt_iff_toInt_lt, Int64.le_iff_toInt_le, ← Int64.toInt_inj, Int32.toInt_toInt64, Int32.lt_iff_toInt_lt, Int32.le_iff_toInt_le, ← Int32.toInt_inj, e0, e1, f0, f1] at *
  omega

set_option maxHeartbeats 4000000 in
set_option maxRecDepth 100000 in
theorem k_X6_costOf_15 (l : Launch) (D : va_G) (κ ε : Nat → Nat) (h0 h1 h2 h3 : Nat) (sz : Nat) (p0 : Int32) (hf0 : ¬ 30 < p0) (hf1 : 15 < p0) : Met l yX6_costOf wsX6_costOf ({ frames := 1, cells := 0, slots := 0, locals := 26 }) (va_Pc [.ref h0, .int p0] (Pre2 D κ ε [(h0, .inr (8, [.int 0, .int 0, .int 2, .ref h1, .ref h2, .int 0, .int 500, .int 0, .int 0, .int 0, .ref h3]))] sz)) (va_Qi (fun r (u : List Value) => (0 < (lg_cmp (p0).toInt64 0)) ∧ ((lg_cmp (p0).toInt64 1000000) < 0) ∧ (¬ 0 < (lg_cmp (p0).toInt64 500000)) ∧ (¬ 0 < (lg_cmp (p0).toInt64 250000)) ∧ (¬ 0 < (lg_cmp (p0).toInt64 125000)) ∧ (¬ 0 < (lg_cmp (p0).toInt64 62500)) ∧ (¬ 0 < (lg_cmp (p0).toInt64 31250)) ∧ (¬ 0 < (lg_cmp (p0).toInt64 15625)) ∧ (¬ 0 < (lg_cmp (p0).toInt64 7812)) ∧ (¬ 0 < (lg_cmp (p0).toInt64 3906)) ∧ (¬ 0 < (lg_cmp (p0).toInt64 1953)) ∧ (¬ 0 < (lg_cmp (p0).toInt64 976)) ∧ (¬ 0 < (lg_cmp (p0).toInt64 488)) ∧ (¬ 0 < (lg_cmp (p0).toInt64 244)) ∧ (¬ 0 < (lg_cmp (p0).toInt64 122)) ∧ (¬ 0 < (lg_cmp (p0).toInt64 61)) ∧ (¬ 0 < (lg_cmp (p0).toInt64 30)) ∧ (0 < (lg_cmp (p0).toInt64 15)) ∧ (u[0]? = some (.int 0)) ∧ (r = ((15360 + ((1024 * (30 - (p0).toInt64)) / 15))).toInt32)) (fun u t => va_P D vwCl [(h0, .inr (8, u))] t.heap ∧ va_D (va_A [(h0, .inr (8, [.int 0, .int 0, .int 2, .ref h1, .ref h2, .int 0, .int 500, .int 0, .int 0, .int 0, .ref h3]))] sz) [(h0, .inr (8, u))]) (va_A [(h0, .inr (8, [.int 0, .int 0, .int 2, .ref h1, .ref h2, .int 0, .int 500, .int 0, .int 0, .int 0, .ref h3]))] sz)) 0 0 (va_A [(h0, .inr (8, [.int 0, .int 0, .int 2, .ref h1, .ref h2, .int 0, .int 500, .int 0, .int 0, .int 0, .ref h3]))] sz) := by
  refine Met.ofW (cc := cX6_costOf) (maxL := 2) (ret := (some .int)) (by decide) rfl ?_
  intro p e s m args below meth c s₁ B hml hv
  obtain ⟨rfl, hsz, hP, hK, hD0, hE9⟩ := hv
  have hx := B.exec
  have hb := B.bytes
  have hr := B.returns
  have hts := atoms_spec (ws := wsX6_costOf) B.pre
  have hown : s.vm.findClass RX6 = some m.cls := findClass_of_methodNamed B.named
  have hlocks := B.notSynchronized
  subst hsz
  have hD := hD0.self (sz := s.heap.size)
  generalize hAe : va_A [(h0, .inr (8, [.int 0, .int 0, .int 2, .ref h1, .ref h2, .int 0, .int 500, .int 0, .int 0, .int 0, .ref h3]))] s.heap.size = A at hD hE9 ⊢
  have hE := hE9.1
  have hDc := hE9.2
  have hA : ∀ q : Nat, s.heap.size ≤ q → A q := fun q h => by rw [← hAe]; exact Or.inr h
  have hS : va_S A s.heap s.heap [] := va_S.rf
  have hP : va_P D vwCl [(h0, .inr (8, [.int 0, .int 0, .int 2, .ref h1, .ref h2, .int 0, .int 500, .int 0, .int 0, .int 0, .ref h3]))] s.heap := hP
  have hl := lv_entry [.ref h0, .int p0] (n := 2) (Nat.le_of_ble_eq_true rfl)
  rw [lg_entry_eq]
  generalize (lg_sl [.ref h0, .int p0] ++ List.replicate (2 - (lg_sl [.ref h0, .int p0]).length) Slot.unset).toArray = ls at hl ⊢
  have hl : lv_has ls 2 [(0, .ref h0), (1, .int p0)] := hl
  refine lv_aload_n hx hb dX6_costOf_0 rfl (lv_at hl 0 rfl) ?_
  refine lv_iload_n hx hb dX6_costOf_1 rfl (lv_at hl 1 rfl) ?_
  refine lv_i2l (v := (p0).toInt64) hx hb dX6_costOf_2 rfl ?_
  refine vp_callSi (W.runS (As := [.long (p0).toInt64]) (rest := [.ref h0]) ⟨hx, hb, hml, hown, hts⟩ (k_X6_cost_0 l D κ ε ((p0).toInt64)) (va_cwS 1 hts gX6_costOf_X6_cost rfl rfl rfl (by decide +kernel) ⟨(Nat.le_of_ble_eq_true rfl), (Nat.le_of_ble_eq_true rfl)⟩) (pre0_S (wc := []) hP hK [] rfl) rfl rfl hl.1 rfl (lv_room (Nat.le_of_ble_eq_true rfl)) dX6_costOf_3 ⟨(Nat.le_of_ble_eq_true rfl), (Nat.le_of_ble_eq_true rfl)⟩) (fun r hw => ?_)
  rcases hw with ⟨c1, c2, c3, hv4⟩ | ⟨c5, c6, c7, c8, hv9⟩ | ⟨c10, c11, c12, c13, c14, hv15⟩ | ⟨c16, c17, c18, c19, c20, c21, hv22⟩ | ⟨c23, c24, c25, c26, c27, c28, c29, hv30⟩ | ⟨c31, c32, c33, c34, c35, c36, c37, c38, hv39⟩ | ⟨c40, c41, c42, c43, c44, c45, c46, c47, c48, hv49⟩ | ⟨c50, c51, c52, c53, c54, c55, c56, c57, c58, c59, hv60⟩ | ⟨c61, c62, c63, c64, c65, c66, c67, c68, c69, c70, c71, hv72⟩ | ⟨c73, c74, c75, c76, c77, c78, c79, c80, c81, c82, c83, c84, hv85⟩ | ⟨c86, c87, c88, c89, c90, c91, c92, c93, c94, c95, c96, c97, c98, hv99⟩ | ⟨c100, c101, c102, c103, c104, c105, c106, c107, c108, c109, c110, c111, c112, c113, hv114⟩ | ⟨c115, c116, c117, c118, c119, c120, c121, c122, c123, c124, c125, c126, c127, c128, c129, hv130⟩ | ⟨c131, c132, c133, c134, c135, c136, c137, c138, c139, c140, c141, c142, c143, c144, c145, c146, hv147⟩ | ⟨c148, c149, c150, c151, c152, c153, c154, c155, c156, c157, c158, c159, c160, c161, c162, c163, c164, hv165⟩ | ⟨c166, c167, c168, c169, c170, c171, c172, c173, c174, c175, c176, c177, c178, c179, c180, c181, c182, c183, hv184⟩ | ⟨c185, c186, c187, c188, c189, c190, c191, c192, c193, c194, c195, c196, c197, c198, c199, c200, c201, c202, c203, hv204⟩ | ⟨c205, c206, c207, c208, c209, c210, c211, c212, c213, c214, c215, c216, c217, c218, c219, c220, c221, c222, c223, c224, hv225⟩ | ⟨c226, c227, c228, c229, c230, c231, c232, c233, c234, c235, c236, c237, c238, c239, c240, c241, c242, c243, c244, c245, c246, hv247⟩ | ⟨c248, c249, c250, c251, c252, c253, c254, c255, c256, c257, c258, c259, c260, c261, c262, c263, c264, c265, c266, c267, c268, hv269⟩ | ⟨c270, c271, rfl⟩ | ⟨c272, rfl⟩
  · skip
    rw [hv4]
    exact absurd c3 (iv198 _ hf0)
  · skip
    rw [hv9]
    exact absurd c8 (iv199 _ hf0)
  · skip
    rw [hv15]
    exact absurd c14 (iv200 _ hf0)
  · skip
    rw [hv22]
    exact absurd c21 (iv201 _ hf0)
  · skip
    rw [hv30]
    exact absurd c29 (iv202 _ hf0)
  · skip
    rw [hv39]
    exact absurd c38 (iv203 _ hf0)
  · skip
    rw [hv49]
    exact absurd c48 (iv204 _ hf0)
  · skip
    rw [hv60]
    exact absurd c59 (iv205 _ hf0)
  · skip
    rw [hv72]
    exact absurd c71 (iv206 _ hf0)
  · skip
    rw [hv85]
    exact absurd c84 (iv207 _ hf0)
  · skip
    rw [hv99]
    exact absurd c98 (iv208 _ hf0)
  · skip
    rw [hv114]
    exact absurd c113 (iv209 _ hf0)
  · skip
    rw [hv130]
    exact absurd c129 (iv210 _ hf0)
  · skip
    rw [hv147]
    exact absurd c146 (iv211 _ hf0)
  · skip
    rw [hv165]
    exact absurd c164 (iv212 _ hf0)
  · skip
    rw [hv184]
    have hF := va_free (wc := [(h0, .inr (8, [.int 0, .int 0, .int 2, .ref h1, .ref h2, .int 0, .int 500, .int 0, .int 0, .int 0, .ref h3]))]) hD hS hA [0] rfl
    refine va_calli (va_runV (As := [.int ((15360 + ((1024 * (30 - (p0).toInt64)) / 15))).toInt32]) (rest := []) ⟨hx, hb, hml, hown, hts⟩ (k_X6_plain_2 l D κ ε h0 h1 h2 h3 s.heap.size (((15360 + ((1024 * (30 - (p0).toInt64)) / 15))).toInt32) (0) (0) (2) (0) (500) (0) (0)) (cwV 1 hts gX6_costOf_X6_plain rfl rfl rfl (by decide +kernel) ⟨(Nat.le_of_ble_eq_true rfl), (Nat.le_of_ble_eq_true rfl)⟩) (pre2_V (q0 := 0) (ci := 8) (wc := [(h0, .inr (8, [.int 0, .int 0, .int 2, .ref h1, .ref h2, .int 0, .int 500, .int 0, .int 0, .int 0, .ref h3]))]) hP hD hK hE9 hS hA [0] (by decide) rfl rfl rfl) rfl rfl hl.1 rfl (lv_room (Nat.le_of_ble_eq_true rfl)) dX6_costOf_6 ⟨(Nat.le_of_ble_eq_true rfl), (Nat.le_of_ble_eq_true rfl)⟩) hS (fun q _ h => hF q h) hF (fun r u273 t H locs ht hvm hw hB hz1 hk1 hS => ?_)
    try dsimp only at hw hB
    obtain ⟨hP1, hD1⟩ := hB
    rw [ht] at hP1
    obtain ⟨hP, hD⟩ := post_j (ws' := [(h0, .inr (8, [.int 0, .int 0, .int 2, .ref h1, .ref h2, .int 0, .int 500, .int 0, .int 0, .int 0, .ref h3]))]) (wr := []) (w1 := [(h0, .inr (8, [.int 0, .int 0, .int 2, .ref h1, .ref h2, .int 0, .int 500, .int 0, .int 0, .int 0, .ref h3]))]) hP hD hF [0] rfl [] rfl (by decide) (by decide) hk1 hP1 hD1 [0] (by decide) rfl
    have hP : va_P D vwCl [(h0, .inr (8, [.int 0, .int 0, .int 2, .ref h1, .ref h2, .int 0, .int 500, .int 0, .int 0, .int 0, .ref h3]))] H := hP
    have hD : va_D A [(h0, .inr (8, [.int 0, .int 0, .int 2, .ref h1, .ref h2, .int 0, .int 500, .int 0, .int 0, .int 0, .ref h3]))] := hD
    rw [hw]
    have hP9 := hP.sub (ws' := [(h0, .inr (8, [.int 0, .int 0, .int 2, .ref h1, .ref h2, .int 0, .int 500, .int 0, .int 0, .int 0, .ref h3]))]) [0] rfl
    have hD9 := hD.sub (ws' := [(h0, .inr (8, [.int 0, .int 0, .int 2, .ref h1, .ref h2, .int 0, .int 500, .int 0, .int 0, .int 0, .ref h3]))]) [0] (by decide) rfl
    exact W.iret (v := ((15360 + ((1024 * (30 - (p0).toInt64)) / 15))).toInt32) hx hb hr (fun t ht hW => ⟨⟨((15360 + ((1024 * (30 - (p0).toInt64)) / 15))).toInt32, [.int 0, .int 0, .int 2, .ref h1, .ref h2, .int 0, .int 500, .int 0, .int 0, .int 0, .ref h3], rfl, ⟨c166, c167, c168, c169, c170, c171, c172, c173, c174, c175, c176, c177, c178, c179, c180, c181, c182, c183, rfl, rfl⟩, by rw [ht]; exact hP9, hD9⟩, hS.F ht⟩) hS.2.2 dX6_costOf_9
  · skip
    rw [hv204]
    exact absurd (iv213 _ hf1) c202
  · skip
    rw [hv225]
    exact absurd (iv213 _ hf1) c222
  · skip
    rw [hv247]
    exact absurd (iv213 _ hf1) c243
  · skip
    rw [hv269]
    exact absurd (iv213 _ hf1) c265
  · skip
    exact absurd (iv197 _ hf0) c271
  · skip
    exact absurd (iv196 _ hf1) c272

theorem iv214 (x : Int32) (h0 : 0 < (lg_cmp (x).toInt64 15)) : 0 < x := by
  have e0 : (0 : Int32).toInt = 0 := by decide
  have e1 : (15 : Int32).toInt = 15 := by decide
  have f0 : (0 : Int64).toInt = 0 := by decide
  have f1 : (15 : Int64).toInt = 15 := by decide
  simp only [lg_cmp_lt0, lg_cmp_le0, lg_cmp_gt0, lg_cmp_ge0, lg_cmp_eq0] at *
  simp only [Int64.lt_iff_toInt_lt, Int64.le_iff_toInt_le, ← Int64.toInt_inj, Int32.toInt_toInt64, Int32.lt_iff_toInt_lt, Int32.le_iff_toInt_le, ← Int32.toInt_inj, e0, e1, f0, f1] at *
  omega

theorem iv215 (x : Int32) (h0 : ¬ 0 < (lg_cmp (x).toInt64 30)) : x ≤ 30 := by
  have e0 : (0 : Int32).toInt = 0 := by decide
  have e1 : (30 : Int32).toInt = 30 := by decide
  have f0 : (0 : Int64).toInt = 0 := by decide
  have f1 : (30 : Int64).toInt = 30 := by decide
  simp only [lg_cmp_lt0, lg_cmp_le0, lg_cmp_gt0, lg_cmp_ge0, lg_cmp_eq0] at *
  simp only [Int64.lt_iff_toInt_lt, Int64.le_iff_toInt_le, ← Int64.toInt_inj, Int32.toInt_toInt64, Int32.lt_iff_toInt_lt, Int32.le_iff_toInt_le, ← Int32.toInt_inj, e0, e1, f0, f1] at *
  omega

theorem iv216 (x : Int32) (h0 : 7 < x) : 0 < (lg_cmp (x).toInt64 0) := by
  have e0 : (0 : Int32).toInt = 0 := by decide
  have e1 : (7 : Int32).toInt = 7 := by decide
  have f0 : (0 : Int64).toInt = 0 := by decide
  have f1 : (7 : Int64).toInt = 7 := by decide
  simp only [lg_cmp_lt0, lg_cmp_le0, lg_cmp_gt0, lg_cmp_ge0, lg_cmp_eq0] at *
  simp only [Int64.lt_iff_toInt_lt, Int64.le_iff_toInt_le, ← Int64.toInt_inj, Int32.toInt_toInt64, Int32.lt_iff_toInt_lt, Int32.le_iff_toInt_le, ← Int32.toInt_inj, e0, e1, f0, f1] at *
  omega

theorem iv217 (x : Int32) (h0 : ¬ 15 < x) : (lg_cmp (x).toInt64 1000000) < 0 := by
  have e0 : (0 : Int32).toInt = 0 := by decide
  have e1 : (15 : Int32).toInt = 15 := by decide
  have e2 : (1000000 : Int32).toInt = 1000000 := by decide
  have f0 : (0 : Int64).toInt = 0 := by decide
  have f1 : (15 : Int64).toInt = 15 := by decide
  have f2 : (1000000 : Int64).toInt = 1000000 := by decide
  simp only [lg_cmp_lt0, lg_cmp_le0, lg_cmp_gt0, lg_cmp_ge0, lg_cmp_eq0] at *
  simp only [Int64.lt_iff_toInt_lt, Int64.le_iff_toInt_le, ← Int64.toInt_inj, Int32.toInt_toInt64, Int32.lt_iff_toInt_lt, Int32.le_iff_toInt_le, ← Int32.toInt_inj, e0, e1, e2, f0, f1, f2] at *
  omega

theorem iv218 (x : Int32) (h0 : ¬ 15 < x) : ¬ 0 < (lg_cmp (x).toInt64 500000) := by
  have e0 : (0 : Int32).toInt = 0 := by decide
  have e1 : (15 : Int32).toInt = 15 := by decide
  have e2 : (500000 : Int32).toInt = 500000 := by decide
  have f0 : (0 : Int64).toInt = 0 := by decide
  have f1 : (15 : Int64).toInt = 15 := by decide
  have f2 : (500000 : Int64).toInt = 500000 := by decide
  simp only [lg_cmp_lt0, lg_cmp_le0, lg_cmp_gt0, lg_cmp_ge0, lg_cmp_eq0] at *
  simp only [Int64.lt_iff_toInt_lt, Int64.le_iff_toInt_le, ← Int64.toInt_inj, Int32.toInt_toInt64, Int32.lt_iff_toInt_lt, Int32.le_iff_toInt_le, ← Int32.toInt_inj, e0, e1, e2, f0, f1, f2] at *
  omega

theorem iv219 (x : Int32) (h0 : ¬ 15 < x) : ¬ 0 < (lg_cmp (x).toInt64 250000) := by
  have e0 : (0 : Int32).toInt = 0 := by decide
  have e1 : (15 : Int32).toInt = 15 := by decide
  have e2 : (250000 : Int32).toInt = 250000 := by decide
  have f0 : (0 : Int64).toInt = 0 := by decide
  have f1 : (15 : Int64).toInt = 15 := by decide
  have f2 : (250000 : Int64).toInt = 250000 := by decide
  simp only [lg_cmp_lt0, lg_cmp_le0, lg_cmp_gt0, lg_cmp_ge0, lg_cmp_eq0] at *
  simp only [Int64.lt_iff_toInt_lt, Int64.le_iff_toInt_le, ← Int64.toInt_inj, Int32.toInt_toInt64, Int32.lt_iff_toInt_lt, Int32.le_iff_toInt_le, ← Int32.toInt_inj, e0, e1, e2, f0, f1, f2] at *
  omega

theorem iv220 (x : Int32) (h0 : ¬ 15 < x) : ¬ 0 < (lg_cmp (x).toInt64 125000) := by
  have e0 : (0 : Int32).toInt = 0 := by decide
  have e1 : (15 : Int32).toInt = 15 := by decide
  have e2 : (125000 : Int32).toInt = 125000 := by decide
  have f0 : (0 : Int64).toInt = 0 := by decide
  have f1 : (15 : Int64).toInt = 15 := by decide
  have f2 : (125000 : Int64).toInt = 125000 := by decide
  simp only [lg_cmp_lt0, lg_cmp_le0, lg_cmp_gt0, lg_cmp_ge0, lg_cmp_eq0] at *
  simp only [Int64.lt_iff_toInt_lt, Int64.le_iff_toInt_le, ← Int64.toInt_inj, Int32.toInt_toInt64, Int32.lt_iff_toInt_lt, Int32.le_iff_toInt_le, ← Int32.toInt_inj, e0, e1, e2, f0, f1, f2] at *
  omega

theorem iv221 (x : Int32) (h0 : ¬ 15 < x) : ¬ 0 < (lg_cmp (x).toInt64 62500) := by
  have e0 : (0 : Int32).toInt = 0 := by decide
  have e1 : (15 : Int32).toInt = 15 := by decide
  have e2 : (62500 : Int32).toInt = 62500 := by decide
  have f0 : (0 : Int64).toInt = 0 := by decide
  have f1 : (15 : Int64).toInt = 15 := by decide
  have f2 : (62500 : Int64).toInt = 62500 := by decide
  simp only [lg_cmp_lt0, lg_cmp_le0, lg_cmp_gt0, lg_cmp_ge0, lg_cmp_eq0] at *
  simp only [Int64.lt_iff_toInt_lt, Int64.le_iff_toInt_le, ← Int64.toInt_inj, Int32.toInt_toInt64, Int32.lt_iff_toInt_lt, Int32.le_iff_toInt_le, ← Int32.toInt_inj, e0, e1, e2, f0, f1, f2] at *
  omega

theorem iv222 (x : Int32) (h0 : ¬ 15 < x) : ¬ 0 < (lg_cmp (x).toInt64 31250) := by
  have e0 : (0 : Int32).toInt = 0 := by decide
  have e1 : (15 : Int32).toInt = 15 := by decide
  have e2 : (31250 : Int32).toInt = 31250 := by decide
  have f0 : (0 : Int64).toInt = 0 := by decide
  have f1 : (15 : Int64).toInt = 15 := by decide
  have f2 : (31250 : Int64).toInt = 31250 := by decide
  simp only [lg_cmp_lt0, lg_cmp_le0, lg_cmp_gt0, lg_cmp_ge0, lg_cmp_eq0] at *
  simp only [Int64.lt_iff_toInt_lt, Int64.le_iff_toInt_le, ← Int64.toInt_inj, Int32.toInt_toInt64, Int32.lt_iff_toInt_lt, Int32.le_iff_toInt_le, ← Int32.toInt_inj, e0, e1, e2, f0, f1, f2] at *
  omega

theorem iv223 (x : Int32) (h0 : ¬ 15 < x) : ¬ 0 < (lg_cmp (x).toInt64 15625) := by
  have e0 : (0 : Int32).toInt = 0 := by decide
  have e1 : (15 : Int32).toInt = 15 := by decide
  have e2 : (15625 : Int32).toInt = 15625 := by decide
  have f0 : (0 : Int64).toInt = 0 := by decide
  have f1 : (15 : Int64).toInt = 15 := by decide
  have f2 : (15625 : Int64).toInt = 15625 := by decide
  simp only [lg_cmp_lt0, lg_cmp_le0, lg_cmp_gt0, lg_cmp_ge0, lg_cmp_eq0] at *
  simp only [Int64.lt_iff_toInt_lt, Int64.le_iff_toInt_le, ← Int64.toInt_inj, Int32.toInt_toInt64, Int32.lt_iff_toInt_lt, Int32.le_iff_toInt_le, ← Int32.toInt_inj, e0, e1, e2, f0, f1, f2] at *
  omega

theorem iv224 (x : Int32) (h0 : ¬ 15 < x) : ¬ 0 < (lg_cmp (x).toInt64 7812) := by
  have e0 : (0 : Int32).toInt = 0 := by decide
  have e1 : (15 : Int32).toInt = 15 := by decide
  have e2 : (7812 : Int32).toInt = 7812 := by decide
  have f0 : (0 : Int64).toInt = 0 := by decide
  have f1 : (15 : Int64).toInt = 15 := by decide
  have f2 : (7812 : Int64).toInt = 7812 := by decide
  simp only [lg_cmp_lt0, lg_cmp_le0, lg_cmp_gt0, lg_cmp_ge0, lg_cmp_eq0] at *
  simp only [Int64.lt_iff_toInt_lt, Int64.le_iff_toInt_le, ← Int64.toInt_inj, Int32.toInt_toInt64, Int32.lt_iff_toInt_lt, Int32.le_iff_toInt_le, ← Int32.toInt_inj, e0, e1, e2, f0, f1, f2] at *
  omega

theorem iv225 (x : Int32) (h0 : ¬ 15 < x) : ¬ 0 < (lg_cmp (x).toInt64 3906) := by
  have e0 : (0 : Int32).toInt = 0 := by decide
  have e1 : (15 : Int32).toInt = 15 := by decide
  have e2 : (3906 : Int32).toInt = 3906 := by decide
  have f0 : (0 : Int64).toInt = 0 := by decide
  have f1 : (15 : Int64).toInt = 15 := by decide
  have f2 : (3906 : Int64).toInt = 3906 := by decide
  simp only [lg_cmp_lt0, lg_cmp_le0, lg_cmp_gt0, lg_cmp_ge0, lg_cmp_eq0] at *
  simp only [Int64.lt_iff_toInt_lt, Int64.le_iff_toInt_le, ← Int64.toInt_inj, Int32.toInt_toInt64, Int32.lt_iff_toInt_lt, Int32.le_iff_toInt_le, ← Int32.toInt_inj, e0, e1, e2, f0, f1, f2] at *
  omega

theorem iv226 (x : Int32) (h0 : ¬ 15 < x) : ¬ 0 < (lg_cmp (x).toInt64 1953) := by
  have e0 : (0 : Int32).toInt = 0 := by decide
  have e1 : (15 : Int32).toInt = 15 := by decide
  have e2 : (1953 : Int32).toInt = 1953 := by decide
  have f0 : (0 : Int64).toInt = 0 := by decide
  have f1 : (15 : Int64).toInt = 15 := by decide
  have f2 : (1953 : Int64).toInt = 1953 := by decide
  simp only [lg_cmp_lt0, lg_cmp_le0, lg_cmp_gt0, lg_cmp_ge0, lg_cmp_eq0] at *
  simp only [Int64.lt_iff_toInt_lt, Int64.le_iff_toInt_le, ← Int64.toInt_inj, Int32.toInt_toInt64, Int32.lt_iff_toInt_lt, Int32.le_iff_toInt_le, ← Int32.toInt_inj, e0, e1, e2, f0, f1, f2] at *
  omega

theorem iv227 (x : Int32) (h0 : ¬ 15 < x) : ¬ 0 < (lg_cmp (x).toInt64 976) := by
  have e0 : (0 : Int32).toInt = 0 := by decide
  have e1 : (15 : Int32).toInt = 15 := by decide
  have e2 : (976 : Int32).toInt = 976 := by decide
  have f0 : (0 : Int64).toInt = 0 := by decide
  have f1 : (15 : Int64).toInt = 15 := by decide
  have f2 : (976 : Int64).toInt = 976 := by decide
  simp only [lg_cmp_lt0, lg_cmp_le0, lg_cmp_gt0, lg_cmp_ge0, lg_cmp_eq0] at *
  simp only [Int64.lt_iff_toInt_lt, Int64.le_iff_toInt_le, ← Int64.toInt_inj, Int32.toInt_toInt64, Int32.lt_iff_toInt_lt, Int32.le_iff_toInt_le, ← Int32.toInt_inj, e0, e1, e2, f0, f1, f2] at *
  omega

theorem iv228 (x : Int32) (h0 : ¬ 15 < x) : ¬ 0 < (lg_cmp (x).toInt64 488) := by
  have e0 : (0 : Int32).toInt = 0 := by decide
  have e1 : (15 : Int32).toInt = 15 := by decide
  have e2 : (488 : Int32).toInt = 488 := by decide
  have f0 : (0 : Int64).toInt = 0 := by decide
  have f1 : (15 : Int64).toInt = 15 := by decide
  have f2 : (488 : Int64).toInt = 488 := by decide
  simp only [lg_cmp_lt0, lg_cmp_le0, lg_cmp_gt0, lg_cmp_ge0, lg_cmp_eq0] at *
  simp only [Int64.lt_iff_toInt_lt, Int64.le_iff_toInt_le, ← Int64.toInt_inj, Int32.toInt_toInt64, Int32.lt_iff_toInt_lt, Int32.le_iff_toInt_le, ← Int32.toInt_inj, e0, e1, e2, f0, f1, f2] at *
  omega

theorem iv229 (x : Int32) (h0 : ¬ 15 < x) : ¬ 0 < (lg_cmp (x).toInt64 244) := by
  have e0 : (0 : Int32).toInt = 0 := by decide
  have e1 : (15 : Int32).toInt = 15 := by decide
  have e2 : (244 : Int32).toInt = 244 := by decide
  have f0 : (0 : Int64).toInt = 0 := by decide
  have f1 : (15 : Int64).toInt = 15 := by decide
  have f2 : (244 : Int64).toInt = 244 := by decide
  simp only [lg_cmp_lt0, lg_cmp_le0, lg_cmp_gt0, lg_cmp_ge0, lg_cmp_eq0] at *
  simp only [Int64.lt_iff_toInt_lt, Int64.le_iff_toInt_le, ← Int64.toInt_inj, Int32.toInt_toInt64, Int32.lt_iff_toInt_lt, Int32.le_iff_toInt_le, ← Int32.toInt_inj, e0, e1, e2, f0, f1, f2] at *
  omega

theorem iv230 (x : Int32) (h0 : ¬ 15 < x) : ¬ 0 < (lg_cmp (x).toInt64 122) := by
  have e0 : (0 : Int32).toInt = 0 := by decide
  have e1 : (15 : Int32).toInt = 15 := by decide
  have e2 : (122 : Int32).toInt = 122 := by decide
  have f0 : (0 : Int64).toInt = 0 := by decide
  have f1 : (15 : Int64).toInt = 15 := by decide
  have f2 : (122 : Int64).toInt = 122 := by decide
  simp only [lg_cmp_lt0, lg_cmp_le0, lg_cmp_gt0, lg_cmp_ge0, lg_cmp_eq0] at *
  simp only [Int64.lt_iff_toInt_lt, Int64.le_iff_toInt_le, ← Int64.toInt_inj, Int32.toInt_toInt64, Int32.lt_iff_toInt_lt, Int32.le_iff_toInt_le, ← Int32.toInt_inj, e0, e1, e2, f0, f1, f2] at *
  omega

theorem iv231 (x : Int32) (h0 : ¬ 15 < x) : ¬ 0 < (lg_cmp (x).toInt64 61) := by
  have e0 : (0 : Int32).toInt = 0 := by decide
  have e1 : (15 : Int32).toInt = 15 := by decide
  have e2 : (61 : Int32).toInt = 61 := by decide
  have f0 : (0 : Int64).toInt = 0 := by decide
  have f1 : (15 : Int64).toInt = 15 := by decide
  have f2 : (61 : Int64).toInt = 61 := by decide
  simp only [lg_cmp_lt0, lg_cmp_le0, lg_cmp_gt0, lg_cmp_ge0, lg_cmp_eq0] at *
  simp only [Int64.lt_iff_toInt_lt, Int64.le_iff_toInt_le, ← Int64.toInt_inj, Int32.toInt_toInt64, Int32.lt_iff_toInt_lt, Int32.le_iff_toInt_le, ← Int32.toInt_inj, e0, e1, e2, f0, f1, f2] at *
  omega

theorem iv232 (x : Int32) (h0 : ¬ 15 < x) : ¬ 0 < (lg_cmp (x).toInt64 30) := by
  have e0 : (0 : Int32).toInt = 0 := by decide
  have e1 : (15 : Int32).toInt = 15 := by decide
  have e2 : (30 : Int32).toInt = 30 := by decide
  have f0 : (0 : Int64).toInt = 0 := by decide
  have f1 : (15 : Int64).toInt = 15 := by decide
  have f2 : (30 : Int64).toInt = 30 := by decide
  simp only [lg_cmp_lt0, lg_cmp_le0, lg_cmp_gt0, lg_cmp_ge0, lg_cmp_eq0] at *
  simp only [Int64.lt_iff_toInt_lt, Int64.le_iff_toInt_le, ← Int64.toInt_inj, Int32.toInt_toInt64, Int32.lt_iff_toInt_lt, Int32.le_iff_toInt_le, ← Int32.toInt_inj, e0, e1, e2, f0, f1, f2] at *
  omega

theorem iv233 (x : Int32) (h0 : ¬ 15 < x) : ¬ 0 < (lg_cmp (x).toInt64 15) := by
  have e0 : (0 : Int32).toInt = 0 := by decide
  have e1 : (15 : Int32).toInt = 15 := by decide
  have f0 : (0 : Int64).toInt = 0 := by decide
  have f1 : (15 : Int64).toInt = 15 := by decide
  simp only [lg_cmp_lt0, lg_cmp_le0, lg_cmp_gt0, lg_cmp_ge0, lg_cmp_eq0] at *
  simp only [Int64.lt_iff_toInt_lt, Int64.le_iff_toInt_le, ← Int64.toInt_inj, Int32.toInt_toInt64, Int32.lt_iff_toInt_lt, Int32.le_iff_toInt_le, ← Int32.toInt_inj, e0, e1, f0, f1] at *
  omega

theorem iv234 (x : Int32) (h0 : 7 < x) : 0 < (lg_cmp (x).toInt64 7) := by
  have e0 : (0 : Int32).toInt = 0 := by decide
  have e1 : (7 : Int32).toInt = 7 := by decide
  have f0 : (0 : Int64).toInt = 0 := by decide
  have f1 : (7 : Int64).toInt = 7 := by decide
  simp only [lg_cmp_lt0, lg_cmp_le0, lg_cmp_gt0, lg_cmp_ge0, lg_cmp_eq0] at *
  simp only [Int64.lt_iff_toInt_lt, Int64.le_iff_toInt_le, ← Int64.toInt_inj, Int32.toInt_toInt64, Int32.lt_iff_toInt_lt, Int32.le_iff_toInt_le, ← Int32.toInt_inj, e0, e1, f0, f1] at *
  omega

set_option maxHeartbeats 4000000 in
set_option maxRecDepth 100000 in
theorem k_X6_costOf_16 (l : Launch) (D : va_G) (κ ε : Nat → Nat) (h0 h1 h2 h3 : Nat) (sz : Nat) (p0 : Int32) (hf0 : ¬ 15 < p0) (hf1 : 7 < p0) : Met l yX6_costOf wsX6_costOf ({ frames := 1, cells := 0, slots := 0, locals := 26 }) (va_Pc [.ref h0, .int p0] (Pre2 D κ ε [(h0, .inr (8, [.int 0, .int 0, .int 2, .ref h1, .ref h2, .int 0, .int 500, .int 0, .int 0, .int 0, .ref h3]))] sz)) (va_Qi (fun r (u : List Value) => (0 < (lg_cmp (p0).toInt64 0)) ∧ ((lg_cmp (p0).toInt64 1000000) < 0) ∧ (¬ 0 < (lg_cmp (p0).toInt64 500000)) ∧ (¬ 0 < (lg_cmp (p0).toInt64 250000)) ∧ (¬ 0 < (lg_cmp (p0).toInt64 125000)) ∧ (¬ 0 < (lg_cmp (p0).toInt64 62500)) ∧ (¬ 0 < (lg_cmp (p0).toInt64 31250)) ∧ (¬ 0 < (lg_cmp (p0).toInt64 15625)) ∧ (¬ 0 < (lg_cmp (p0).toInt64 7812)) ∧ (¬ 0 < (lg_cmp (p0).toInt64 3906)) ∧ (¬ 0 < (lg_cmp (p0).toInt64 1953)) ∧ (¬ 0 < (lg_cmp (p0).toInt64 976)) ∧ (¬ 0 < (lg_cmp (p0).toInt64 488)) ∧ (¬ 0 < (lg_cmp (p0).toInt64 244)) ∧ (¬ 0 < (lg_cmp (p0).toInt64 122)) ∧ (¬ 0 < (lg_cmp (p0).toInt64 61)) ∧ (¬ 0 < (lg_cmp (p0).toInt64 30)) ∧ (¬ 0 < (lg_cmp (p0).toInt64 15)) ∧ (0 < (lg_cmp (p0).toInt64 7)) ∧ (u[0]? = some (.int 0)) ∧ (r = ((16384 + ((1024 * (15 - (p0).toInt64)) / 8))).toInt32)) (fun u t => va_P D vwCl [(h0, .inr (8, u))] t.heap ∧ va_D (va_A [(h0, .inr (8, [.int 0, .int 0, .int 2, .ref h1, .ref h2, .int 0, .int 500, .int 0, .int 0, .int 0, .ref h3]))] sz) [(h0, .inr (8, u))]) (va_A [(h0, .inr (8, [.int 0, .int 0, .int 2, .ref h1, .ref h2, .int 0, .int 500, .int 0, .int 0, .int 0, .ref h3]))] sz)) 0 0 (va_A [(h0, .inr (8, [.int 0, .int 0, .int 2, .ref h1, .ref h2, .int 0, .int 500, .int 0, .int 0, .int 0, .ref h3]))] sz) := by
  refine Met.ofW (cc := cX6_costOf) (maxL := 2) (ret := (some .int)) (by decide) rfl ?_
  intro p e s m args below meth c s₁ B hml hv
  obtain ⟨rfl, hsz, hP, hK, hD0, hE9⟩ := hv
  have hx := B.exec
  have hb := B.bytes
  have hr := B.returns
  have hts := atoms_spec (ws := wsX6_costOf) B.pre
  have hown : s.vm.findClass RX6 = some m.cls := findClass_of_methodNamed B.named
  have hlocks := B.notSynchronized
  subst hsz
  have hD := hD0.self (sz := s.heap.size)
  generalize hAe : va_A [(h0, .inr (8, [.int 0, .int 0, .int 2, .ref h1, .ref h2, .int 0, .int 500, .int 0, .int 0, .int 0, .ref h3]))] s.heap.size = A at hD hE9 ⊢
  have hE := hE9.1
  have hDc := hE9.2
  have hA : ∀ q : Nat, s.heap.size ≤ q → A q := fun q h => by rw [← hAe]; exact Or.inr h
  have hS : va_S A s.heap s.heap [] := va_S.rf
  have hP : va_P D vwCl [(h0, .inr (8, [.int 0, .int 0, .int 2, .ref h1, .ref h2, .int 0, .int 500, .int 0, .int 0, .int 0, .ref h3]))] s.heap := hP
  have hl := lv_entry [.ref h0, .int p0] (n := 2) (Nat.le_of_ble_eq_true rfl)
  rw [lg_entry_eq]
  generalize (lg_sl [.ref h0, .int p0] ++ List.replicate (2 - (lg_sl [.ref h0, .int p0]).length) Slot.unset).toArray = ls at hl ⊢
  have hl : lv_has ls 2 [(0, .ref h0), (1, .int p0)] := hl
  refine lv_aload_n hx hb dX6_costOf_0 rfl (lv_at hl 0 rfl) ?_
  refine lv_iload_n hx hb dX6_costOf_1 rfl (lv_at hl 1 rfl) ?_
  refine lv_i2l (v := (p0).toInt64) hx hb dX6_costOf_2 rfl ?_
  refine vp_callSi (W.runS (As := [.long (p0).toInt64]) (rest := [.ref h0]) ⟨hx, hb, hml, hown, hts⟩ (k_X6_cost_0 l D κ ε ((p0).toInt64)) (va_cwS 1 hts gX6_costOf_X6_cost rfl rfl rfl (by decide +kernel) ⟨(Nat.le_of_ble_eq_true rfl), (Nat.le_of_ble_eq_true rfl)⟩) (pre0_S (wc := []) hP hK [] rfl) rfl rfl hl.1 rfl (lv_room (Nat.le_of_ble_eq_true rfl)) dX6_costOf_3 ⟨(Nat.le_of_ble_eq_true rfl), (Nat.le_of_ble_eq_true rfl)⟩) (fun r hw => ?_)
  rcases hw with ⟨c1, c2, c3, hv4⟩ | ⟨c5, c6, c7, c8, hv9⟩ | ⟨c10, c11, c12, c13, c14, hv15⟩ | ⟨c16, c17, c18, c19, c20, c21, hv22⟩ | ⟨c23, c24, c25, c26, c27, c28, c29, hv30⟩ | ⟨c31, c32, c33, c34, c35, c36, c37, c38, hv39⟩ | ⟨c40, c41, c42, c43, c44, c45, c46, c47, c48, hv49⟩ | ⟨c50, c51, c52, c53, c54, c55, c56, c57, c58, c59, hv60⟩ | ⟨c61, c62, c63, c64, c65, c66, c67, c68, c69, c70, c71, hv72⟩ | ⟨c73, c74, c75, c76, c77, c78, c79, c80, c81, c82, c83, c84, hv85⟩ | ⟨c86, c87, c88, c89, c90, c91, c92, c93, c94, c95, c96, c97, c98, hv99⟩ | ⟨c100, c101, c102, c103, c104, c105, c106, c107, c108, c109, c110, c111, c112, c113, hv114⟩ | ⟨c115, c116, c117, c118, c119, c120, c121, c122, c123, c124, c125, c126, c127, c128, c129, hv130⟩ | ⟨c131, c132, c133, c134, c135, c136, c137, c138, c139, c140, c141, c142, c143, c144, c145, c146, hv147⟩ | ⟨c148, c149, c150, c151, c152, c153, c154, c155, c156, c157, c158, c159, c160, c161, c162, c163, c164, hv165⟩ | ⟨c166, c167, c168, c169, c170, c171, c172, c173, c174, c175, c176, c177, c178, c179, c180, c181, c182, c183, hv184⟩ | ⟨c185, c186, c187, c188, c189, c190, c191, c192, c193, c194, c195, c196, c197, c198, c199, c200, c201, c202, c203, hv204⟩ | ⟨c205, c206, c207, c208, c209, c210, c211, c212, c213, c214, c215, c216, c217, c218, c219, c220, c221, c222, c223, c224, hv225⟩ | ⟨c226, c227, c228, c229, c230, c231, c232, c233, c234, c235, c236, c237, c238, c239, c240, c241, c242, c243, c244, c245, c246, hv247⟩ | ⟨c248, c249, c250, c251, c252, c253, c254, c255, c256, c257, c258, c259, c260, c261, c262, c263, c264, c265, c266, c267, c268, hv269⟩ | ⟨c270, c271, rfl⟩ | ⟨c272, rfl⟩
  · skip
    rw [hv4]
    exact absurd c3 (iv218 _ hf0)
  · skip
    rw [hv9]
    exact absurd c8 (iv219 _ hf0)
  · skip
    rw [hv15]
    exact absurd c14 (iv220 _ hf0)
  · skip
    rw [hv22]
    exact absurd c21 (iv221 _ hf0)
  · skip
    rw [hv30]
    exact absurd c29 (iv222 _ hf0)
  · skip
    rw [hv39]
    exact absurd c38 (iv223 _ hf0)
  · skip
    rw [hv49]
    exact absurd c48 (iv224 _ hf0)
  · skip
    rw [hv60]
    exact absurd c59 (iv225 _ hf0)
  · skip
    rw [hv72]
    exact absurd c71 (iv226 _ hf0)
  · skip
    rw [hv85]
    exact absurd c84 (iv227 _ hf0)
  · skip
    rw [hv99]
    exact absurd c98 (iv228 _ hf0)
  · skip
    rw [hv114]
    exact absurd c113 (iv229 _ hf0)
  · skip
    rw [hv130]
    exact absurd c129 (iv230 _ hf0)
  · skip
    rw [hv147]
    exact absurd c146 (iv231 _ hf0)
  · skip
    rw [hv165]
    exact absurd c164 (iv232 _ hf0)
  · skip
    rw [hv184]
    exact absurd c183 (iv233 _ hf0)
  · skip
    rw [hv204]
    have hF := va_free (wc := [(h0, .inr (8, [.int 0, .int 0, .int 2, .ref h1, .ref h2, .int 0, .int 500, .int 0, .int 0, .int 0, .ref h3]))]) hD hS hA [0] rfl
    refine va_calli (va_runV (As := [.int ((16384 + ((1024 * (15 - (p0).toInt64)) / 8))).toInt32]) (rest := []) ⟨hx, hb, hml, hown, hts⟩ (k_X6_plain_2 l D κ ε h0 h1 h2 h3 s.heap.size (((16384 + ((1024 * (15 - (p0).toInt64)) / 8))).toInt32) (0) (0) (2) (0) (500) (0) (0)) (cwV 1 hts gX6_costOf_X6_plain rfl rfl rfl (by decide +kernel) ⟨(Nat.le_of_ble_eq_true rfl), (Nat.le_of_ble_eq_true rfl)⟩) (pre2_V (q0 := 0) (ci := 8) (wc := [(h0, .inr (8, [.int 0, .int 0, .int 2, .ref h1, .ref h2, .int 0, .int 500, .int 0, .int 0, .int 0, .ref h3]))]) hP hD hK hE9 hS hA [0] (by decide) rfl rfl rfl) rfl rfl hl.1 rfl (lv_room (Nat.le_of_ble_eq_true rfl)) dX6_costOf_6 ⟨(Nat.le_of_ble_eq_true rfl), (Nat.le_of_ble_eq_true rfl)⟩) hS (fun q _ h => hF q h) hF (fun r u273 t H locs ht hvm hw hB hz1 hk1 hS => ?_)
    try dsimp only at hw hB
    obtain ⟨hP1, hD1⟩ := hB
    rw [ht] at hP1
    obtain ⟨hP, hD⟩ := post_j (ws' := [(h0, .inr (8, [.int 0, .int 0, .int 2, .ref h1, .ref h2, .int 0, .int 500, .int 0, .int 0, .int 0, .ref h3]))]) (wr := []) (w1 := [(h0, .inr (8, [.int 0, .int 0, .int 2, .ref h1, .ref h2, .int 0, .int 500, .int 0, .int 0, .int 0, .ref h3]))]) hP hD hF [0] rfl [] rfl (by decide) (by decide) hk1 hP1 hD1 [0] (by decide) rfl
    have hP : va_P D vwCl [(h0, .inr (8, [.int 0, .int 0, .int 2, .ref h1, .ref h2, .int 0, .int 500, .int 0, .int 0, .int 0, .ref h3]))] H := hP
    have hD : va_D A [(h0, .inr (8, [.int 0, .int 0, .int 2, .ref h1, .ref h2, .int 0, .int 500, .int 0, .int 0, .int 0, .ref h3]))] := hD
    rw [hw]
    have hP9 := hP.sub (ws' := [(h0, .inr (8, [.int 0, .int 0, .int 2, .ref h1, .ref h2, .int 0, .int 500, .int 0, .int 0, .int 0, .ref h3]))]) [0] rfl
    have hD9 := hD.sub (ws' := [(h0, .inr (8, [.int 0, .int 0, .int 2, .ref h1, .ref h2, .int 0, .int 500, .int 0, .int 0, .int 0, .ref h3]))]) [0] (by decide) rfl
    exact W.iret (v := ((16384 + ((1024 * (15 - (p0).toInt64)) / 8))).toInt32) hx hb hr (fun t ht hW => ⟨⟨((16384 + ((1024 * (15 - (p0).toInt64)) / 8))).toInt32, [.int 0, .int 0, .int 2, .ref h1, .ref h2, .int 0, .int 500, .int 0, .int 0, .int 0, .ref h3], rfl, ⟨c185, c186, c187, c188, c189, c190, c191, c192, c193, c194, c195, c196, c197, c198, c199, c200, c201, c202, c203, rfl, rfl⟩, by rw [ht]; exact hP9, hD9⟩, hS.F ht⟩) hS.2.2 dX6_costOf_9
  · skip
    rw [hv225]
    exact absurd (iv234 _ hf1) c223
  · skip
    rw [hv247]
    exact absurd (iv234 _ hf1) c244
  · skip
    rw [hv269]
    exact absurd (iv234 _ hf1) c266
  · skip
    exact absurd (iv217 _ hf0) c271
  · skip
    exact absurd (iv216 _ hf1) c272

theorem iv235 (x : Int32) (h0 : 0 < (lg_cmp (x).toInt64 7)) : 0 < x := by
  have e0 : (0 : Int32).toInt = 0 := by decide
  have e1 : (7 : Int32).toInt = 7 := by decide
  have f0 : (0 : Int64).toInt = 0 := by decide
  have f1 : (7 : Int64).toInt = 7 := by decide
  simp only [lg_cmp_lt0, lg_cmp_le0, lg_cmp_gt0, lg_cmp_ge0, lg_cmp_eq0] at *
  simp only [Int64.lt_iff_toInt_lt, Int64.le_iff_toInt_le, ← Int64.toInt_inj, Int32.toInt_toInt64, Int32.lt_iff_toInt_lt, Int32.le_iff_toInt_le, ← Int32.toInt_inj, e0, e1, f0, f1] at *
  omega

theorem iv236 (x : Int32) (h0 : ¬ 0 < (lg_cmp (x).toInt64 15)) : x ≤ 15 := by
  have e0 : (0 : Int32).toInt = 0 := by decide
  have e1 : (15 : Int32).toInt = 15 := by decide
  have f0 : (0 : Int64).toInt = 0 := by decide
  have f1 : (15 : Int64).toInt = 15 := by decide
  simp only [lg_cmp_lt0, lg_cmp_le0, lg_cmp_gt0, lg_cmp_ge0, lg_cmp_eq0] at *
  simp only [Int64.lt_iff_toInt_lt, Int64.le_iff_toInt_le, ← Int64.toInt_inj, Int32.toInt_toInt64, Int32.lt_iff_toInt_lt, Int32.le_iff_toInt_le, ← Int32.toInt_inj, e0, e1, f0, f1] at *
  omega

theorem iv237 (x : Int32) (h0 : 3 < x) : 0 < (lg_cmp (x).toInt64 0) := by
  have e0 : (0 : Int32).toInt = 0 := by decide
  have e1 : (3 : Int32).toInt = 3 := by decide
  have f0 : (0 : Int64).toInt = 0 := by decide
  have f1 : (3 : Int64).toInt = 3 := by decide
  simp only [lg_cmp_lt0, lg_cmp_le0, lg_cmp_gt0, lg_cmp_ge0, lg_cmp_eq0] at *
  simp only [Int64.lt_iff_toInt_lt, Int64.le_iff_toInt_le, ← Int64.toInt_inj, Int32.toInt_toInt64, Int32.lt_iff_toInt_lt, Int32.le_iff_toInt_le, ← Int32.toInt_inj, e0, e1, f0, f1] at *
  omega

theorem iv238 (x : Int32) (h0 : ¬ 7 < x) : (lg_cmp (x).toInt64 1000000) < 0 := by
  have e0 : (0 : Int32).toInt = 0 := by decide
  have e1 : (7 : Int32).toInt = 7 := by decide
  have e2 : (1000000 : Int32).toInt = 1000000 := by decide
  have f0 : (0 : Int64).toInt = 0 := by decide
  have f1 : (7 : Int64).toInt = 7 := by decide
  have f2 : (1000000 : Int64).toInt = 1000000 := by decide
  simp only [lg_cmp_lt0, lg_cmp_le0, lg_cmp_gt0, lg_cmp_ge0, lg_cmp_eq0] at *
  simp only [Int64.lt_iff_toInt_lt, Int64.le_iff_toInt_le, ← Int64.toInt_inj, Int32.toInt_toInt64, Int32.lt_iff_toInt_lt, Int32.le_iff_toInt_le, ← Int32.toInt_inj, e0, e1, e2, f0, f1, f2] at *
  omega

theorem iv239 (x : Int32) (h0 : ¬ 7 < x) : ¬ 0 < (lg_cmp (x).toInt64 500000) := by
  have e0 : (0 : Int32).toInt = 0 := by decide
  have e1 : (7 : Int32).toInt = 7 := by decide
  have e2 : (500000 : Int32).toInt = 500000 := by decide
  have f0 : (0 : Int64).toInt = 0 := by decide
  have f1 : (7 : Int64).toInt = 7 := by decide
  have f2 : (500000 : Int64).toInt = 500000 := by decide
  simp only [lg_cmp_lt0, lg_cmp_le0, lg_cmp_gt0, lg_cmp_ge0, lg_cmp_eq0] at *
  simp only [Int64.lt_iff_toInt_lt, Int64.le_iff_toInt_le, ← Int64.toInt_inj, Int32.toInt_toInt64, Int32.lt_iff_toInt_lt, Int32.le_iff_toInt_le, ← Int32.toInt_inj, e0, e1, e2, f0, f1, f2] at *
  omega

theorem iv240 (x : Int32) (h0 : ¬ 7 < x) : ¬ 0 < (lg_cmp (x).toInt64 250000) := by
  have e0 : (0 : Int32).toInt = 0 := by decide
  have e1 : (7 : Int32).toInt = 7 := by decide
  have e2 : (250000 : Int32).toInt = 250000 := by decide
  have f0 : (0 : Int64).toInt = 0 := by decide
  have f1 : (7 : Int64).toInt = 7 := by decide
  have f2 : (250000 : Int64).toInt = 250000 := by decide
  simp only [lg_cmp_lt0, lg_cmp_le0, lg_cmp_gt0, lg_cmp_ge0, lg_cmp_eq0] at *
  simp only [Int64.lt_iff_toInt_lt, Int64.le_iff_toInt_le, ← Int64.toInt_inj, Int32.toInt_toInt64, Int32.lt_iff_toInt_lt, Int32.le_iff_toInt_le, ← Int32.toInt_inj, e0, e1, e2, f0, f1, f2] at *
  omega

theorem iv241 (x : Int32) (h0 : ¬ 7 < x) : ¬ 0 < (lg_cmp (x).toInt64 125000) := by
  have e0 : (0 : Int32).toInt = 0 := by decide
  have e1 : (7 : Int32).toInt = 7 := by decide
  have e2 : (125000 : Int32).toInt = 125000 := by decide
  have f0 : (0 : Int64).toInt = 0 := by decide
  have f1 : (7 : Int64).toInt = 7 := by decide
  have f2 : (125000 : Int64).toInt = 125000 := by decide
  simp only [lg_cmp_lt0, lg_cmp_le0, lg_cmp_gt0, lg_cmp_ge0, lg_cmp_eq0] at *
  simp only [Int64.lt_iff_toInt_lt, Int64.le_iff_toInt_le, ← Int64.toInt_inj, Int32.toInt_toInt64, Int32.lt_iff_toInt_lt, Int32.le_iff_toInt_le, ← Int32.toInt_inj, e0, e1, e2, f0, f1, f2] at *
  omega

theorem iv242 (x : Int32) (h0 : ¬ 7 < x) : ¬ 0 < (lg_cmp (x).toInt64 62500) := by
  have e0 : (0 : Int32).toInt = 0 := by decide
  have e1 : (7 : Int32).toInt = 7 := by decide
  have e2 : (62500 : Int32).toInt = 62500 := by decide
  have f0 : (0 : Int64).toInt = 0 := by decide
  have f1 : (7 : Int64).toInt = 7 := by decide
  have f2 : (62500 : Int64).toInt = 62500 := by decide
  simp only [lg_cmp_lt0, lg_cmp_le0, lg_cmp_gt0, lg_cmp_ge0, lg_cmp_eq0] at *
  simp only [Int64.lt_iff_toInt_lt, Int64.le_iff_toInt_le, ← Int64.toInt_inj, Int32.toInt_toInt64, Int32.lt_iff_toInt_lt, Int32.le_iff_toInt_le, ← Int32.toInt_inj, e0, e1, e2, f0, f1, f2] at *
  omega

theorem iv243 (x : Int32) (h0 : ¬ 7 < x) : ¬ 0 < (lg_cmp (x).toInt64 31250) := by
  have e0 : (0 : Int32).toInt = 0 := by decide
  have e1 : (7 : Int32).toInt = 7 := by decide
  have e2 : (31250 : Int32).toInt = 31250 := by decide
  have f0 : (0 : Int64).toInt = 0 := by decide
  have f1 : (7 : Int64).toInt = 7 := by decide
  have f2 : (31250 : Int64).toInt = 31250 := by decide
  simp only [lg_cmp_lt0, lg_cmp_le0, lg_cmp_gt0, lg_cmp_ge0, lg_cmp_eq0] at *
  simp only [Int64.lt_iff_toInt_lt, Int64.le_iff_toInt_le, ← Int64.toInt_inj, Int32.toInt_toInt64, Int32.lt_iff_toInt_lt, Int32.le_iff_toInt_le, ← Int32.toInt_inj, e0, e1, e2, f0, f1, f2] at *
  omega

theorem iv244 (x : Int32) (h0 : ¬ 7 < x) : ¬ 0 < (lg_cmp (x).toInt64 15625) := by
  have e0 : (0 : Int32).toInt = 0 := by decide
  have e1 : (7 : Int32).toInt = 7 := by decide
  have e2 : (15625 : Int32).toInt = 15625 := by decide
  have f0 : (0 : Int64).toInt = 0 := by decide
  have f1 : (7 : Int64).toInt = 7 := by decide
  have f2 : (15625 : Int64).toInt = 15625 := by decide
  simp only [lg_cmp_lt0, lg_cmp_le0, lg_cmp_gt0, lg_cmp_ge0, lg_cmp_eq0] at *
  simp only [Int64.lt_iff_toInt_lt, Int64.le_iff_toInt_le, ← Int64.toInt_inj, Int32.toInt_toInt64, Int32.lt_iff_toInt_lt, Int32.le_iff_toInt_le, ← Int32.toInt_inj, e0, e1, e2, f0, f1, f2] at *
  omega

theorem iv245 (x : Int32) (h0 : ¬ 7 < x) : ¬ 0 < (lg_cmp (x).toInt64 7812) := by
  have e0 : (0 : Int32).toInt = 0 := by decide
  have e1 : (7 : Int32).toInt = 7 := by decide
  have e2 : (7812 : Int32).toInt = 7812 := by decide
  have f0 : (0 : Int64).toInt = 0 := by decide
  have f1 : (7 : Int64).toInt = 7 := by decide
  have f2 : (7812 : Int64).toInt = 7812 := by decide
  simp only [lg_cmp_lt0, lg_cmp_le0, lg_cmp_gt0, lg_cmp_ge0, lg_cmp_eq0] at *
  simp only [Int64.lt_iff_toInt_lt, Int64.le_iff_toInt_le, ← Int64.toInt_inj, Int32.toInt_toInt64, Int32.lt_iff_toInt_lt, Int32.le_iff_toInt_le, ← Int32.toInt_inj, e0, e1, e2, f0, f1, f2] at *
  omega

theorem iv246 (x : Int32) (h0 : ¬ 7 < x) : ¬ 0 < (lg_cmp (x).toInt64 3906) := by
  have e0 : (0 : Int32).toInt = 0 := by decide
  have e1 : (7 : Int32).toInt = 7 := by decide
  have e2 : (3906 : Int32).toInt = 3906 := by decide
  have f0 : (0 : Int64).toInt = 0 := by decide
  have f1 : (7 : Int64).toInt = 7 := by decide
  have f2 : (3906 : Int64).toInt = 3906 := by decide
  simp only [lg_cmp_lt0, lg_cmp_le0, lg_cmp_gt0, lg_cmp_ge0, lg_cmp_eq0] at *
  simp only [Int64.lt_iff_toInt_lt, Int64.le_iff_toInt_le, ← Int64.toInt_inj, Int32.toInt_toInt64, Int32.lt_iff_toInt_lt, Int32.le_iff_toInt_le, ← Int32.toInt_inj, e0, e1, e2, f0, f1, f2] at *
  omega

theorem iv247 (x : Int32) (h0 : ¬ 7 < x) : ¬ 0 < (lg_cmp (x).toInt64 1953) := by
  have e0 : (0 : Int32).toInt = 0 := by decide
  have e1 : (7 : Int32).toInt = 7 := by decide
  have e2 : (1953 : Int32).toInt = 1953 := by decide
  have f0 : (0 : Int64).toInt = 0 := by decide
  have f1 : (7 : Int64).toInt = 7 := by decide
  have f2 : (1953 : Int64).toInt = 1953 := by decide
  simp only [lg_cmp_lt0, lg_cmp_le0, lg_cmp_gt0, lg_cmp_ge0, lg_cmp_eq0] at *
  simp only [Int64.lt_iff_toInt_lt, Int64.le_iff_toInt_le, ← Int64.toInt_inj, Int32.toInt_toInt64, Int32.lt_iff_toInt_lt, Int32.le_iff_toInt_le, ← Int32.toInt_inj, e0, e1, e2, f0, f1, f2] at *
  omega

theorem iv248 (x : Int32) (h0 : ¬ 7 < x) : ¬ 0 < (lg_cmp (x).toInt64 976) := by
  have e0 : (0 : Int32).toInt = 0 := by decide
  have e1 : (7 : Int32).toInt = 7 := by decide
  have e2 : (976 : Int32).toInt = 976 := by decide
  have f0 : (0 : Int64).toInt = 0 := by decide
  have f1 : (7 : Int64).toInt = 7 := by decide
  have f2 : (976 : Int64).toInt = 976 := by decide
  simp only [lg_cmp_lt0, lg_cmp_le0, lg_cmp_gt0, lg_cmp_ge0, lg_cmp_eq0] at *
  simp only [Int64.lt_iff_toInt_lt, Int64.le_iff_toInt_le, ← Int64.toInt_inj, Int32.toInt_toInt64, Int32.lt_iff_toInt_lt, Int32.le_iff_toInt_le, ← Int32.toInt_inj, e0, e1, e2, f0, f1, f2] at *
  omega

theorem iv249 (x : Int32) (h0 : ¬ 7 < x) : ¬ 0 < (lg_cmp (x).toInt64 488) := by
  have e0 : (0 : Int32).toInt = 0 := by decide
  have e1 : (7 : Int32).toInt = 7 := by decide
  have e2 : (488 : Int32).toInt = 488 := by decide
  have f0 : (0 : Int64).toInt = 0 := by decide
  have f1 : (7 : Int64).toInt = 7 := by decide
  have f2 : (488 : Int64).toInt = 488 := by decide
  simp only [lg_cmp_lt0, lg_cmp_le0, lg_cmp_gt0, lg_cmp_ge0, lg_cmp_eq0] at *
  simp only [Int64.lt_iff_toInt_lt, Int64.le_iff_toInt_le, ← Int64.toInt_inj, Int32.toInt_toInt64, Int32.lt_iff_toInt_lt, Int32.le_iff_toInt_le, ← Int32.toInt_inj, e0, e1, e2, f0, f1, f2] at *
  omega

theorem iv250 (x : Int32) (h0 : ¬ 7 < x) : ¬ 0 < (lg_cmp (x).toInt64 244) := by
  have e0 : (0 : Int32).toInt = 0 := by decide
  have e1 : (7 : Int32).toInt = 7 := by decide
  have e2 : (244 : Int32).toInt = 244 := by decide
  have f0 : (0 : Int64).toInt = 0 := by decide
  have f1 : (7 : Int64).toInt = 7 := by decide
  have f2 : (244 : Int64).toInt = 244 := by decide
  simp only [lg_cmp_lt0, lg_cmp_le0, lg_cmp_gt0, lg_cmp_ge0, lg_cmp_eq0] at *
  simp only [Int64.lt_iff_toInt_lt, Int64.le_iff_toInt_le, ← Int64.toInt_inj, Int32.toInt_toInt64, Int32.lt_iff_toInt_lt, Int32.le_iff_toInt_le, ← Int32.toInt_inj, e0, e1, e2, f0, f1, f2] at *
  omega

theorem iv251 (x : Int32) (h0 : ¬ 7 < x) : ¬ 0 < (lg_cmp (x).toInt64 122) := by
  have e0 : (0 : Int32).toInt = 0 := by decide
  have e1 : (7 : Int32).toInt = 7 := by decide
  have e2 : (122 : Int32).toInt = 122 := by decide
  have f0 : (0 : Int64).toInt = 0 := by decide
  have f1 : (7 : Int64).toInt = 7 := by decide
  have f2 : (122 : Int64).toInt = 122 := by decide
  simp only [lg_cmp_lt0, lg_cmp_le0, lg_cmp_gt0, lg_cmp_ge0, lg_cmp_eq0] at *
  simp only [Int64.lt_iff_toInt_lt, Int64.le_iff_toInt_le, ← Int64.toInt_inj, Int32.toInt_toInt64, Int32.lt_iff_toInt_lt, Int32.le_iff_toInt_le, ← Int32.toInt_inj, e0, e1, e2, f0, f1, f2] at *
  omega

theorem iv252 (x : Int32) (h0 : ¬ 7 < x) : ¬ 0 < (lg_cmp (x).toInt64 61) := by
  have e0 : (0 : Int32).toInt = 0 := by decide
  have e1 : (7 : Int32).toInt = 7 := by decide
  have e2 : (61 : Int32).toInt = 61 := by decide
  have f0 : (0 : Int64).toInt = 0 := by decide
  have f1 : (7 : Int64).toInt = 7 := by decide
  have f2 : (61 : Int64).toInt = 61 := by decide
  simp only [lg_cmp_lt0, lg_cmp_le0, lg_cmp_gt0, lg_cmp_ge0, lg_cmp_eq0] at *
  simp only [Int64.lt_iff_toInt_lt, Int64.le_iff_toInt_le, ← Int64.toInt_inj, Int32.toInt_toInt64, Int32.lt_iff_toInt_lt, Int32.le_iff_toInt_le, ← Int32.toInt_inj, e0, e1, e2, f0, f1, f2] at *
  omega

theorem iv253 (x : Int32) (h0 : ¬ 7 < x) : ¬ 0 < (lg_cmp (x).toInt64 30) := by
  have e0 : (0 : Int32).toInt = 0 := by decide
  have e1 : (7 : Int32).toInt = 7 := by decide
  have e2 : (30 : Int32).toInt = 30 := by decide
  have f0 : (0 : Int64).toInt = 0 := by decide
  have f1 : (7 : Int64).toInt = 7 := by decide
  have f2 : (30 : Int64).toInt = 30 := by decide
  simp only [lg_cmp_lt0, lg_cmp_le0, lg_cmp_gt0, lg_cmp_ge0, lg_cmp_eq0] at *
  simp only [Int64.lt_iff_toInt_lt, Int64.le_iff_toInt_le, ← Int64.toInt_inj, Int32.toInt_toInt64, Int32.lt_iff_toInt_lt, Int32.le_iff_toInt_le, ← Int32.toInt_inj, e0, e1, e2, f0, f1, f2] at *
  omega

theorem iv254 (x : Int32) (h0 : ¬ 7 < x) : ¬ 0 < (lg_cmp (x).toInt64 15) := by
  have e0 : (0 : Int32).toInt = 0 := by decide
  have e1 : (7 : Int32).toInt = 7 := by decide
  have e2 : (15 : Int32).toInt = 15 := by decide
  have f0 : (0 : Int64).toInt = 0 := by decide
  have f1 : (7 : Int64).toInt = 7 := by decide
  have f2 : (15 : Int64).toInt = 15 := by decide
  simp only [lg_cmp_lt0, lg_cmp_le0, lg_cmp_gt0, lg_cmp_ge0, lg_cmp_eq0] at *
  simp only [Int64.lt_iff_toInt_lt, Int64.le_iff_toInt_le, ← Int64.toInt_inj, Int32.toInt_toInt64, Int32.lt_iff_toInt_lt, Int32.le_iff_toInt_le, ← Int32.toInt_inj, e0, e1, e2, f0, f1, f2] at *
  omega

theorem iv255 (x : Int32) (h0 : ¬ 7 < x) : ¬ 0 < (lg_cmp (x).toInt64 7) := by
  have e0 : (0 : Int32).toInt = 0 := by decide
  have e1 : (7 : Int32).toInt = 7 := by decide
  have f0 : (0 : Int64).toInt = 0 := by decide
  have f1 : (7 : Int64).toInt = 7 := by decide
  simp only [lg_cmp_lt0, lg_cmp_le0, lg_cmp_gt0, lg_cmp_ge0, lg_cmp_eq0] at *
  simp only [Int64.lt_iff_toInt_lt, Int64.le_iff_toInt_le, ← Int64.toInt_inj, Int32.toInt_toInt64, Int32.lt_iff_toInt_lt, Int32.le_iff_toInt_le, ← Int32.toInt_inj, e0, e1, f0, f1] at *
  omega

theorem iv256 (x : Int32) (h0 : 3 < x) : 0 < (lg_cmp (x).toInt64 3) := by
  have e0 : (0 : Int32).toInt = 0 := by decide
  have e1 : (3 : Int32).toInt = 3 := by decide
  have f0 : (0 : Int64).toInt = 0 := by decide
  have f1 : (3 : Int64).toInt = 3 := by decide
  simp only [lg_cmp_lt0, lg_cmp_le0, lg_cmp_gt0, lg_cmp_ge0, lg_cmp_eq0] at *
  simp only [Int64.lt_iff_toInt_lt, Int64.le_iff_toInt_le, ← Int64.toInt_inj, Int32.toInt_toInt64, Int32.lt_iff_toInt_lt, Int32.le_iff_toInt_le, ← Int32.toInt_inj, e0, e1, f0, f1] at *
  omega

set_option maxHeartbeats 4000000 in
set_option maxRecDepth 100000 in
theorem k_X6_costOf_17 (l : Launch) (D : va_G) (κ ε : Nat → Nat) (h0 h1 h2 h3 : Nat) (sz : Nat) (p0 : Int32) (hf0 : ¬ 7 < p0) (hf1 : 3 < p0) : Met l yX6_costOf wsX6_costOf ({ frames := 1, cells := 0, slots := 0, locals := 26 }) (va_Pc [.ref h0, .int p0] (Pre2 D κ ε [(h0, .inr (8, [.int 0, .int 0, .int 2, .ref h1, .ref h2, .int 0, .int 500, .int 0, .int 0, .int 0, .ref h3]))] sz)) (va_Qi (fun r (u : List Value) => (0 < (lg_cmp (p0).toInt64 0)) ∧ ((lg_cmp (p0).toInt64 1000000) < 0) ∧ (¬ 0 < (lg_cmp (p0).toInt64 500000)) ∧ (¬ 0 < (lg_cmp (p0).toInt64 250000)) ∧ (¬ 0 < (lg_cmp (p0).toInt64 125000)) ∧ (¬ 0 < (lg_cmp (p0).toInt64 62500)) ∧ (¬ 0 < (lg_cmp (p0).toInt64 31250)) ∧ (¬ 0 < (lg_cmp (p0).toInt64 15625)) ∧ (¬ 0 < (lg_cmp (p0).toInt64 7812)) ∧ (¬ 0 < (lg_cmp (p0).toInt64 3906)) ∧ (¬ 0 < (lg_cmp (p0).toInt64 1953)) ∧ (¬ 0 < (lg_cmp (p0).toInt64 976)) ∧ (¬ 0 < (lg_cmp (p0).toInt64 488)) ∧ (¬ 0 < (lg_cmp (p0).toInt64 244)) ∧ (¬ 0 < (lg_cmp (p0).toInt64 122)) ∧ (¬ 0 < (lg_cmp (p0).toInt64 61)) ∧ (¬ 0 < (lg_cmp (p0).toInt64 30)) ∧ (¬ 0 < (lg_cmp (p0).toInt64 15)) ∧ (¬ 0 < (lg_cmp (p0).toInt64 7)) ∧ (0 < (lg_cmp (p0).toInt64 3)) ∧ (u[0]? = some (.int 0)) ∧ (r = ((17408 + ((1024 * (7 - (p0).toInt64)) / 4))).toInt32)) (fun u t => va_P D vwCl [(h0, .inr (8, u))] t.heap ∧ va_D (va_A [(h0, .inr (8, [.int 0, .int 0, .int 2, .ref h1, .ref h2, .int 0, .int 500, .int 0, .int 0, .int 0, .ref h3]))] sz) [(h0, .inr (8, u))]) (va_A [(h0, .inr (8, [.int 0, .int 0, .int 2, .ref h1, .ref h2, .int 0, .int 500, .int 0, .int 0, .int 0, .ref h3]))] sz)) 0 0 (va_A [(h0, .inr (8, [.int 0, .int 0, .int 2, .ref h1, .ref h2, .int 0, .int 500, .int 0, .int 0, .int 0, .ref h3]))] sz) := by
  refine Met.ofW (cc := cX6_costOf) (maxL := 2) (ret := (some .int)) (by decide) rfl ?_
  intro p e s m args below meth c s₁ B hml hv
  obtain ⟨rfl, hsz, hP, hK, hD0, hE9⟩ := hv
  have hx := B.exec
  have hb := B.bytes
  have hr := B.returns
  have hts := atoms_spec (ws := wsX6_costOf) B.pre
  have hown : s.vm.findClass RX6 = some m.cls := findClass_of_methodNamed B.named
  have hlocks := B.notSynchronized
  subst hsz
  have hD := hD0.self (sz := s.heap.size)
  generalize hAe : va_A [(h0, .inr (8, [.int 0, .int 0, .int 2, .ref h1, .ref h2, .int 0, .int 500, .int 0, .int 0, .int 0, .ref h3]))] s.heap.size = A at hD hE9 ⊢
  have hE := hE9.1
  have hDc := hE9.2
  have hA : ∀ q : Nat, s.heap.size ≤ q → A q := fun q h => by rw [← hAe]; exact Or.inr h
  have hS : va_S A s.heap s.heap [] := va_S.rf
  have hP : va_P D vwCl [(h0, .inr (8, [.int 0, .int 0, .int 2, .ref h1, .ref h2, .int 0, .int 500, .int 0, .int 0, .int 0, .ref h3]))] s.heap := hP
  have hl := lv_entry [.ref h0, .int p0] (n := 2) (Nat.le_of_ble_eq_true rfl)
  rw [lg_entry_eq]
  generalize (lg_sl [.ref h0, .int p0] ++ List.replicate (2 - (lg_sl [.ref h0, .int p0]).length) Slot.unset).toArray = ls at hl ⊢
  have hl : lv_has ls 2 [(0, .ref h0), (1, .int p0)] := hl
  refine lv_aload_n hx hb dX6_costOf_0 rfl (lv_at hl 0 rfl) ?_
  refine lv_iload_n hx hb dX6_costOf_1 rfl (lv_at hl 1 rfl) ?_
  refine lv_i2l (v := (p0).toInt64) hx hb dX6_costOf_2 rfl ?_
  refine vp_callSi (W.runS (As := [.long (p0).toInt64]) (rest := [.ref h0]) ⟨hx, hb, hml, hown, hts⟩ (k_X6_cost_0 l D κ ε ((p0).toInt64)) (va_cwS 1 hts gX6_costOf_X6_cost rfl rfl rfl (by decide +kernel) ⟨(Nat.le_of_ble_eq_true rfl), (Nat.le_of_ble_eq_true rfl)⟩) (pre0_S (wc := []) hP hK [] rfl) rfl rfl hl.1 rfl (lv_room (Nat.le_of_ble_eq_true rfl)) dX6_costOf_3 ⟨(Nat.le_of_ble_eq_true rfl), (Nat.le_of_ble_eq_true rfl)⟩) (fun r hw => ?_)
  rcases hw with ⟨c1, c2, c3, hv4⟩ | ⟨c5, c6, c7, c8, hv9⟩ | ⟨c10, c11, c12, c13, c14, hv15⟩ | ⟨c16, c17, c18, c19, c20, c21, hv22⟩ | ⟨c23, c24, c25, c26, c27, c28, c29, hv30⟩ | ⟨c31, c32, c33, c34, c35, c36, c37, c38, hv39⟩ | ⟨c40, c41, c42, c43, c44, c45, c46, c47, c48, hv49⟩ | ⟨c50, c51, c52, c53, c54, c55, c56, c57, c58, c59, hv60⟩ | ⟨c61, c62, c63, c64, c65, c66, c67, c68, c69, c70, c71, hv72⟩ | ⟨c73, c74, c75, c76, c77, c78, c79, c80, c81, c82, c83, c84, hv85⟩ | ⟨c86, c87, c88, c89, c90, c91, c92, c93, c94, c95, c96, c97, c98, hv99⟩ | ⟨c100, c101, c102, c103, c104, c105, c106, c107, c108, c109, c110, c111, c112, c113, hv114⟩ | ⟨c115, c116, c117, c118, c119, c120, c121, c122, c123, c124, c125, c126, c127, c128, c129, hv130⟩ | ⟨c131, c132, c133, c134, c135, c136, c137, c138, c139, c140, c141, c142, c143, c144, c145, c146, hv147⟩ | ⟨c148, c149, c150, c151, c152, c153, c154, c155, c156, c157, c158, c159, c160, c161, c162, c163, c164, hv165⟩ | ⟨c166, c167, c168, c169, c170, c171, c172, c173, c174, c175, c176, c177, c178, c179, c180, c181, c182, c183, hv184⟩ | ⟨c185, c186, c187, c188, c189, c190, c191, c192, c193, c194, c195, c196, c197, c198, c199, c200, c201, c202, c203, hv204⟩ | ⟨c205, c206, c207, c208, c209, c210, c211, c212, c213, c214, c215, c216, c217, c218, c219, c220, c221, c222, c223, c224, hv225⟩ | ⟨c226, c227, c228, c229, c230, c231, c232, c233, c234, c235, c236, c237, c238, c239, c240, c241, c242, c243, c244, c245, c246, hv247⟩ | ⟨c248, c249, c250, c251, c252, c253, c254, c255, c256, c257, c258, c259, c260, c261, c262, c263, c264, c265, c266, c267, c268, hv269⟩ | ⟨c270, c271, rfl⟩ | ⟨c272, rfl⟩
  · skip
    rw [hv4]
    exact absurd c3 (iv239 _ hf0)
  · skip
    rw [hv9]
    exact absurd c8 (iv240 _ hf0)
  · skip
    rw [hv15]
    exact absurd c14 (iv241 _ hf0)
  · skip
    rw [hv22]
    exact absurd c21 (iv242 _ hf0)
  · skip
    rw [hv30]
    exact absurd c29 (iv243 _ hf0)
  · skip
    rw [hv39]
    exact absurd c38 (iv244 _ hf0)
  · skip
    rw [hv49]
    exact absurd c48 (iv245 _ hf0)
  · skip
    rw [hv60]
    exact absurd c59 (iv246 _ hf0)
  · skip
    rw [hv72]
    exact absurd c71 (iv247 _ hf0)
  · skip
    rw [hv85]
    exact absurd c84 (iv248 _ hf0)
  · skip
    rw [hv99]
    exact absurd c98 (iv249 _ hf0)
  · skip
    rw [hv114]
    exact absurd c113 (iv250 _ hf0)
  · skip
    rw [hv130]
    exact absurd c129 (iv251 _ hf0)
  · skip
    rw [hv147]
    exact absurd c146 (iv252 _ hf0)
  · skip
    rw [hv165]
    exact absurd c164 (iv253 _ hf0)
  · skip
    rw [hv184]
    exact absurd c183 (iv254 _ hf0)
  · skip
    rw [hv204]
    exact absurd c203 (iv255 _ hf0)
  · skip
    rw [hv225]
    have hF := va_free (wc := [(h0, .inr (8, [.int 0, .int 0, .int 2, .ref h1, .ref h2, .int 0, .int 500, .int 0, .int 0, .int 0, .ref h3]))]) hD hS hA [0] rfl
    refine va_calli (va_runV (As := [.int ((17408 + ((1024 * (7 - (p0).toInt64)) / 4))).toInt32]) (rest := []) ⟨hx, hb, hml, hown, hts⟩ (k_X6_plain_2 l D κ ε h0 h1 h2 h3 s.heap.size (((17408 + ((1024 * (7 - (p0).toInt64)) / 4))).toInt32) (0) (0) (2) (0) (500) (0) (0)) (cwV 1 hts gX6_costOf_X6_plain rfl rfl rfl (by decide +kernel) ⟨(Nat.le_of_ble_eq_true rfl), (Nat.le_of_ble_eq_true rfl)⟩) (pre2_V (q0 := 0) (ci := 8) (wc := [(h0, .inr (8, [.int 0, .int 0, .int 2, .ref h1, .ref h2, .int 0, .int 500, .int 0, .int 0, .int 0, .ref h3]))]) hP hD hK hE9 hS hA [0] (by decide) rfl rfl rfl) rfl rfl hl.1 rfl (lv_room (Nat.le_of_ble_eq_true rfl)) dX6_costOf_6 ⟨(Nat.le_of_ble_eq_true rfl), (Nat.le_of_ble_eq_true rfl)⟩) hS (fun q _ h => hF q h) hF (fun r u273 t H locs ht hvm hw hB hz1 hk1 hS => ?_)
    try dsimp only at hw hB
    obtain ⟨hP1, hD1⟩ := hB
    rw [ht] at hP1
    obtain ⟨hP, hD⟩ := post_j (ws' := [(h0, .inr (8, [.int 0, .int 0, .int 2, .ref h1, .ref h2, .int 0, .int 500, .int 0, .int 0, .int 0, .ref h3]))]) (wr := []) (w1 := [(h0, .inr (8, [.int 0, .int 0, .int 2, .ref h1, .ref h2, .int 0, .int 500, .int 0, .int 0, .int 0, .ref h3]))]) hP hD hF [0] rfl [] rfl (by decide) (by decide) hk1 hP1 hD1 [0] (by decide) rfl
    have hP : va_P D vwCl [(h0, .inr (8, [.int 0, .int 0, .int 2, .ref h1, .ref h2, .int 0, .int 500, .int 0, .int 0, .int 0, .ref h3]))] H := hP
    have hD : va_D A [(h0, .inr (8, [.int 0, .int 0, .int 2, .ref h1, .ref h2, .int 0, .int 500, .int 0, .int 0, .int 0, .ref h3]))] := hD
    rw [hw]
    have hP9 := hP.sub (ws' := [(h0, .inr (8, [.int 0, .int 0, .int 2, .ref h1, .ref h2, .int 0, .int 500, .int 0, .int 0, .int 0, .ref h3]))]) [0] rfl
    have hD9 := hD.sub (ws' := [(h0, .inr (8, [.int 0, .int 0, .int 2, .ref h1, .ref h2, .int 0, .int 500, .int 0, .int 0, .int 0, .ref h3]))]) [0] (by decide) rfl
    exact W.iret (v := ((17408 + ((1024 * (7 - (p0).toInt64)) / 4))).toInt32) hx hb hr (fun t ht hW => ⟨⟨((17408 + ((1024 * (7 - (p0).toInt64)) / 4))).toInt32, [.int 0, .int 0, .int 2, .ref h1, .ref h2, .int 0, .int 500, .int 0, .int 0, .int 0, .ref h3], rfl, ⟨c205, c206, c207, c208, c209, c210, c211, c212, c213, c214, c215, c216, c217, c218, c219, c220, c221, c222, c223, c224, rfl, rfl⟩, by rw [ht]; exact hP9, hD9⟩, hS.F ht⟩) hS.2.2 dX6_costOf_9
  · skip
    rw [hv247]
    exact absurd (iv256 _ hf1) c245
  · skip
    rw [hv269]
    exact absurd (iv256 _ hf1) c267
  · skip
    exact absurd (iv238 _ hf0) c271
  · skip
    exact absurd (iv237 _ hf1) c272

theorem iv257 (x : Int32) (h0 : 0 < (lg_cmp (x).toInt64 3)) : 0 < x := by
  have e0 : (0 : Int32).toInt = 0 := by decide
  have e1 : (3 : Int32).toInt = 3 := by decide
  have f0 : (0 : Int64).toInt = 0 := by decide
  have f1 : (3 : Int64).toInt = 3 := by decide
  simp only [lg_cmp_lt0, lg_cmp_le0, lg_cmp_gt0, lg_cmp_ge0, lg_cmp_eq0] at *
  simp only [Int64.lt_iff_toInt_lt, Int64.le_iff_toInt_le, ← Int64.toInt_inj, Int32.toInt_toInt64, Int32.lt_iff_toInt_lt, Int32.le_iff_toInt_le, ← Int32.toInt_inj, e0, e1, f0, f1] at *
  omega

theorem iv258 (x : Int32) (h0 : ¬ 0 < (lg_cmp (x).toInt64 7)) : x ≤ 7 := by
  have e0 : (0 : Int32).toInt = 0 := by decide
  have e1 : (7 : Int32).toInt = 7 := by decide
  have f0 : (0 : Int64).toInt = 0 := by decide
  have f1 : (7 : Int64).toInt = 7 := by decide
  simp only [lg_cmp_lt0, lg_cmp_le0, lg_cmp_gt0, lg_cmp_ge0, lg_cmp_eq0] at *
  simp only [Int64.lt_iff_toInt_lt, Int64.le_iff_toInt_le, ← Int64.toInt_inj, Int32.toInt_toInt64, Int32.lt_iff_toInt_lt, Int32.le_iff_toInt_le, ← Int32.toInt_inj, e0, e1, f0, f1] at *
  omega

theorem iv259 (x : Int32) (h0 : 1 < x) : 0 < (lg_cmp (x).toInt64 0) := by
  have e0 : (0 : Int32).toInt = 0 := by decide
  have e1 : (1 : Int32).toInt = 1 := by decide
  have f0 : (0 : Int64).toInt = 0 := by decide
  have f1 : (1 : Int64).toInt = 1 := by decide
  simp only [lg_cmp_lt0, lg_cmp_le0, lg_cmp_gt0, lg_cmp_ge0, lg_cmp_eq0] at *
  simp only [Int64.lt_iff_toInt_lt, Int64.le_iff_toInt_le, ← Int64.toInt_inj, Int32.toInt_toInt64, Int32.lt_iff_toInt_lt, Int32.le_iff_toInt_le, ← Int32.toInt_inj, e0, e1, f0, f1] at *
  omega

theorem iv260 (x : Int32) (h0 : ¬ 3 < x) : (lg_cmp (x).toInt64 1000000) < 0 := by
  have e0 : (0 : Int32).toInt = 0 := by decide
  have e1 : (3 : Int32).toInt = 3 := by decide
  have e2 : (1000000 : Int32).toInt = 1000000 := by decide
  have f0 : (0 : Int64).toInt = 0 := by decide
  have f1 : (3 : Int64).toInt = 3 := by decide
  have f2 : (1000000 : Int64).toInt = 1000000 := by decide
  simp only [lg_cmp_lt0, lg_cmp_le0, lg_cmp_gt0, lg_cmp_ge0, lg_cmp_eq0] at *
  simp only [Int64.lt_iff_toInt_lt, Int64.le_iff_toInt_le, ← Int64.toInt_inj, Int32.toInt_toInt64, Int32.lt_iff_toInt_lt, Int32.le_iff_toInt_le, ← Int32.toInt_inj, e0, e1, e2, f0, f1, f2] at *
  omega

theorem iv261 (x : Int32) (h0 : ¬ 3 < x) : ¬ 0 < (lg_cmp (x).toInt64 500000) := by
  have e0 : (0 : Int32).toInt = 0 := by decide
  have e1 : (3 : Int32).toInt = 3 := by decide
  have e2 : (500000 : Int32).toInt = 500000 := by decide
  have f0 : (0 : Int64).toInt = 0 := by decide
  have f1 : (3 : Int64).toInt = 3 := by decide
  have f2 : (500000 : Int64).toInt = 500000 := by decide
  simp only [lg_cmp_lt0, lg_cmp_le0, lg_cmp_gt0, lg_cmp_ge0, lg_cmp_eq0] at *
  simp only [Int64.lt_iff_toInt_lt, Int64.le_iff_toInt_le, ← Int64.toInt_inj, Int32.toInt_toInt64, Int32.lt_iff_toInt_lt, Int32.le_iff_toInt_le, ← Int32.toInt_inj, e0, e1, e2, f0, f1, f2] at *
  omega

theorem iv262 (x : Int32) (h0 : ¬ 3 < x) : ¬ 0 < (lg_cmp (x).toInt64 250000) := by
  have e0 : (0 : Int32).toInt = 0 := by decide
  have e1 : (3 : Int32).toInt = 3 := by decide
  have e2 : (250000 : Int32).toInt = 250000 := by decide
  have f0 : (0 : Int64).toInt = 0 := by decide
  have f1 : (3 : Int64).toInt = 3 := by decide
  have f2 : (250000 : Int64).toInt = 250000 := by decide
  simp only [lg_cmp_lt0, lg_cmp_le0, lg_cmp_gt0, lg_cmp_ge0, lg_cmp_eq0] at *
  simp only [Int64.lt_iff_toInt_lt, Int64.le_iff_toInt_le, ← Int64.toInt_inj, Int32.toInt_toInt64, Int32.lt_iff_toInt_lt, Int32.le_iff_toInt_le, ← Int32.toInt_inj, e0, e1, e2, f0, f1, f2] at *
  omega

theorem iv263 (x : Int32) (h0 : ¬ 3 < x) : ¬ 0 < (lg_cmp (x).toInt64 125000) := by
  have e0 : (0 : Int32).toInt = 0 := by decide
  have e1 : (3 : Int32).toInt = 3 := by decide
  have e2 : (125000 : Int32).toInt = 125000 := by decide
  have f0 : (0 : Int64).toInt = 0 := by decide
  have f1 : (3 : Int64).toInt = 3 := by decide
  have f2 : (125000 : Int64).toInt = 125000 := by decide
  simp only [lg_cmp_lt0, lg_cmp_le0, lg_cmp_gt0, lg_cmp_ge0, lg_cmp_eq0] at *
  simp only [Int64.lt_iff_toInt_lt, Int64.le_iff_toInt_le, ← Int64.toInt_inj, Int32.toInt_toInt64, Int32.lt_iff_toInt_lt, Int32.le_iff_toInt_le, ← Int32.toInt_inj, e0, e1, e2, f0, f1, f2] at *
  omega

theorem iv264 (x : Int32) (h0 : ¬ 3 < x) : ¬ 0 < (lg_cmp (x).toInt64 62500) := by
  have e0 : (0 : Int32).toInt = 0 := by decide
  have e1 : (3 : Int32).toInt = 3 := by decide
  have e2 : (62500 : Int32).toInt = 62500 := by decide
  have f0 : (0 : Int64).toInt = 0 := by decide
  have f1 : (3 : Int64).toInt = 3 := by decide
  have f2 : (62500 : Int64).toInt = 62500 := by decide
  simp only [lg_cmp_lt0, lg_cmp_le0, lg_cmp_gt0, lg_cmp_ge0, lg_cmp_eq0] at *
  simp only [Int64.lt_iff_toInt_lt, Int64.le_iff_toInt_le, ← Int64.toInt_inj, Int32.toInt_toInt64, Int32.lt_iff_toInt_lt, Int32.le_iff_toInt_le, ← Int32.toInt_inj, e0, e1, e2, f0, f1, f2] at *
  omega

theorem iv265 (x : Int32) (h0 : ¬ 3 < x) : ¬ 0 < (lg_cmp (x).toInt64 31250) := by
  have e0 : (0 : Int32).toInt = 0 := by decide
  have e1 : (3 : Int32).toInt = 3 := by decide
  have e2 : (31250 : Int32).toInt = 31250 := by decide
  have f0 : (0 : Int64).toInt = 0 := by decide
  have f1 : (3 : Int64).toInt = 3 := by decide
  have f2 : (31250 : Int64).toInt = 31250 := by decide
  simp only [lg_cmp_lt0, lg_cmp_le0, lg_cmp_gt0, lg_cmp_ge0, lg_cmp_eq0] at *
  simp only [Int64.lt_iff_toInt_lt, Int64.le_iff_toInt_le, ← Int64.toInt_inj, Int32.toInt_toInt64, Int32.lt_iff_toInt_lt, Int32.le_iff_toInt_le, ← Int32.toInt_inj, e0, e1, e2, f0, f1, f2] at *
  omega

theorem iv266 (x : Int32) (h0 : ¬ 3 < x) : ¬ 0 < (lg_cmp (x).toInt64 15625) := by
  have e0 : (0 : Int32).toInt = 0 := by decide
  have e1 : (3 : Int32).toInt = 3 := by decide
  have e2 : (15625 : Int32).toInt = 15625 := by decide
  have f0 : (0 : Int64).toInt = 0 := by decide
  have f1 : (3 : Int64).toInt = 3 := by decide
  have f2 : (15625 : Int64).toInt = 15625 := by decide
  simp only [lg_cmp_lt0, lg_cmp_le0, lg_cmp_gt0, lg_cmp_ge0, lg_cmp_eq0] at *
  simp only [Int64.lt_iff_toInt_lt, Int64.le_iff_toInt_le, ← Int64.toInt_inj, Int32.toInt_toInt64, Int32.lt_iff_toInt_lt, Int32.le_iff_toInt_le, ← Int32.toInt_inj, e0, e1, e2, f0, f1, f2] at *
  omega

theorem iv267 (x : Int32) (h0 : ¬ 3 < x) : ¬ 0 < (lg_cmp (x).toInt64 7812) := by
  have e0 : (0 : Int32).toInt = 0 := by decide
  have e1 : (3 : Int32).toInt = 3 := by decide
  have e2 : (7812 : Int32).toInt = 7812 := by decide
  have f0 : (0 : Int64).toInt = 0 := by decide
  have f1 : (3 : Int64).toInt = 3 := by decide
  have f2 : (7812 : Int64).toInt = 7812 := by decide
  simp only [lg_cmp_lt0, lg_cmp_le0, lg_cmp_gt0, lg_cmp_ge0, lg_cmp_eq0] at *
  simp only [Int64.lt_iff_toInt_lt, Int64.le_iff_toInt_le, ← Int64.toInt_inj, Int32.toInt_toInt64, Int32.lt_iff_toInt_lt, Int32.le_iff_toInt_le, ← Int32.toInt_inj, e0, e1, e2, f0, f1, f2] at *
  omega

theorem iv268 (x : Int32) (h0 : ¬ 3 < x) : ¬ 0 < (lg_cmp (x).toInt64 3906) := by
  have e0 : (0 : Int32).toInt = 0 := by decide
  have e1 : (3 : Int32).toInt = 3 := by decide
  have e2 : (3906 : Int32).toInt = 3906 := by decide
  have f0 : (0 : Int64).toInt = 0 := by decide
  have f1 : (3 : Int64).toInt = 3 := by decide
  have f2 : (3906 : Int64).toInt = 3906 := by decide
  simp only [lg_cmp_lt0, lg_cmp_le0, lg_cmp_gt0, lg_cmp_ge0, lg_cmp_eq0] at *
  simp only [Int64.lt_iff_toInt_lt, Int64.le_iff_toInt_le, ← Int64.toInt_inj, Int32.toInt_toInt64, Int32.lt_iff_toInt_lt, Int32.le_iff_toInt_le, ← Int32.toInt_inj, e0, e1, e2, f0, f1, f2] at *
  omega

theorem iv269 (x : Int32) (h0 : ¬ 3 < x) : ¬ 0 < (lg_cmp (x).toInt64 1953) := by
  have e0 : (0 : Int32).toInt = 0 := by decide
  have e1 : (3 : Int32).toInt = 3 := by decide
  have e2 : (1953 : Int32).toInt = 1953 := by decide
  have f0 : (0 : Int64).toInt = 0 := by decide
  have f1 : (3 : Int64).toInt = 3 := by decide
  have f2 : (1953 : Int64).toInt = 1953 := by decide
  simp only [lg_cmp_lt0, lg_cmp_le0, lg_cmp_gt0, lg_cmp_ge0, lg_cmp_eq0] at *
  simp only [Int64.lt_iff_toInt_lt, Int64.le_iff_toInt_le, ← Int64.toInt_inj, Int32.toInt_toInt64, Int32.lt_iff_toInt_lt, Int32.le_iff_toInt_le, ← Int32.toInt_inj, e0, e1, e2, f0, f1, f2] at *
  omega

theorem iv270 (x : Int32) (h0 : ¬ 3 < x) : ¬ 0 < (lg_cmp (x).toInt64 976) := by
  have e0 : (0 : Int32).toInt = 0 := by decide
  have e1 : (3 : Int32).toInt = 3 := by decide
  have e2 : (976 : Int32).toInt = 976 := by decide
  have f0 : (0 : Int64).toInt = 0 := by decide
  have f1 : (3 : Int64).toInt = 3 := by decide
  have f2 : (976 : Int64).toInt = 976 := by decide
  simp only [lg_cmp_lt0, lg_cmp_le0, lg_cmp_gt0, lg_cmp_ge0, lg_cmp_eq0] at *
  simp only [Int64.lt_iff_toInt_lt, Int64.le_iff_toInt_le, ← Int64.toInt_inj, Int32.toInt_toInt64, Int32.lt_iff_toInt_lt, Int32.le_iff_toInt_le, ← Int32.toInt_inj, e0, e1, e2, f0, f1, f2] at *
  omega

theorem iv271 (x : Int32) (h0 : ¬ 3 < x) : ¬ 0 < (lg_cmp (x).toInt64 488) := by
  have e0 : (0 : Int32).toInt = 0 := by decide
  have e1 : (3 : Int32).toInt = 3 := by decide
  have e2 : (488 : Int32).toInt = 488 := by decide
  have f0 : (0 : Int64).toInt = 0 := by decide
  have f1 : (3 : Int64).toInt = 3 := by decide
  have f2 : (488 : Int64).toInt = 488 := by decide
  simp only [lg_cmp_lt0, lg_cmp_le0, lg_cmp_gt0, lg_cmp_ge0, lg_cmp_eq0] at *
  simp only [Int64.lt_iff_toInt_lt, Int64.le_iff_toInt_le, ← Int64.toInt_inj, Int32.toInt_toInt64, Int32.lt_iff_toInt_lt, Int32.le_iff_toInt_le, ← Int32.toInt_inj, e0, e1, e2, f0, f1, f2] at *
  omega

theorem iv272 (x : Int32) (h0 : ¬ 3 < x) : ¬ 0 < (lg_cmp (x).toInt64 244) := by
  have e0 : (0 : Int32).toInt = 0 := by decide
  have e1 : (3 : Int32).toInt = 3 := by decide
  have e2 : (244 : Int32).toInt = 244 := by decide
  have f0 : (0 : Int64).toInt = 0 := by decide
  have f1 : (3 : Int64).toInt = 3 := by decide
  have f2 : (244 : Int64).toInt = 244 := by decide
  simp only [lg_cmp_lt0, lg_cmp_le0, lg_cmp_gt0, lg_cmp_ge0, lg_cmp_eq0] at *
  simp only [Int64.lt_iff_toInt_lt, Int64.le_iff_toInt_le, ← Int64.toInt_inj, Int32.toInt_toInt64, Int32.lt_iff_toInt_lt, Int32.le_iff_toInt_le, ← Int32.toInt_inj, e0, e1, e2, f0, f1, f2] at *
  omega

theorem iv273 (x : Int32) (h0 : ¬ 3 < x) : ¬ 0 < (lg_cmp (x).toInt64 122) := by
  have e0 : (0 : Int32).toInt = 0 := by decide
  have e1 : (3 : Int32).toInt = 3 := by decide
  have e2 : (122 : Int32).toInt = 122 := by decide
  have f0 : (0 : Int64).toInt = 0 := by decide
  have f1 : (3 : Int64).toInt = 3 := by decide
  have f2 : (122 : Int64).toInt = 122 := by decide
  simp only [lg_cmp_lt0, lg_cmp_le0, lg_cmp_gt0, lg_cmp_ge0, lg_cmp_eq0] at *
  simp only [Int64.lt_iff_toInt_lt, Int64.le_iff_toInt_le, ← Int64.toInt_inj, Int32.toInt_toInt64, Int32.lt_iff_toInt_lt, Int32.le_iff_toInt_le, ← Int32.toInt_inj, e0, e1, e2, f0, f1, f2] at *
  omega

theorem iv274 (x : Int32) (h0 : ¬ 3 < x) : ¬ 0 < (lg_cmp (x).toInt64 61) := by
  have e0 : (0 : Int32).toInt = 0 := by decide
  have e1 : (3 : Int32).toInt = 3 := by decide
  have e2 : (61 : Int32).toInt = 61 := by decide
  have f0 : (0 : Int64).toInt = 0 := by decide
  have f1 : (3 : Int64).toInt = 3 := by decide
  have f2 : (61 : Int64).toInt = 61 := by decide
  simp only [lg_cmp_lt0, lg_cmp_le0, lg_cmp_gt0, lg_cmp_ge0, lg_cmp_eq0] at *
  simp only [Int64.lt_iff_toInt_lt, Int64.le_iff_toInt_le, ← Int64.toInt_inj, Int32.toInt_toInt64, Int32.lt_iff_toInt_lt, Int32.le_iff_toInt_le, ← Int32.toInt_inj, e0, e1, e2, f0, f1, f2] at *
  omega

theorem iv275 (x : Int32) (h0 : ¬ 3 < x) : ¬ 0 < (lg_cmp (x).toInt64 30) := by
  have e0 : (0 : Int32).toInt = 0 := by decide
  have e1 : (3 : Int32).toInt = 3 := by decide
  have e2 : (30 : Int32).toInt = 30 := by decide
  have f0 : (0 : Int64).toInt = 0 := by decide
  have f1 : (3 : Int64).toInt = 3 := by decide
  have f2 : (30 : Int64).toInt = 30 := by decide
  simp only [lg_cmp_lt0, lg_cmp_le0, lg_cmp_gt0, lg_cmp_ge0, lg_cmp_eq0] at *
  simp only [Int64.lt_iff_toInt_lt, Int64.le_iff_toInt_le, ← Int64.toInt_inj, Int32.toInt_toInt64, Int32.lt_iff_toInt_lt, Int32.le_iff_toInt_le, ← Int32.toInt_inj, e0, e1, e2, f0, f1, f2] at *
  omega

theorem iv276 (x : Int32) (h0 : ¬ 3 < x) : ¬ 0 < (lg_cmp (x).toInt64 15) := by
  have e0 : (0 : Int32).toInt = 0 := by decide
  have e1 : (3 : Int32).toInt = 3 := by decide
  have e2 : (15 : Int32).toInt = 15 := by decide
  have f0 : (0 : Int64).toInt = 0 := by decide
  have f1 : (3 : Int64).toInt = 3 := by decide
  have f2 : (15 : Int64).toInt = 15 := by decide
  simp only [lg_cmp_lt0, lg_cmp_le0, lg_cmp_gt0, lg_cmp_ge0, lg_cmp_eq0] at *
  simp only [Int64.lt_iff_toInt_lt, Int64.le_iff_toInt_le, ← Int64.toInt_inj, Int32.toInt_toInt64, Int32.lt_iff_toInt_lt, Int32.le_iff_toInt_le, ← Int32.toInt_inj, e0, e1, e2, f0, f1, f2] at *
  omega

theorem iv277 (x : Int32) (h0 : ¬ 3 < x) : ¬ 0 < (lg_cmp (x).toInt64 7) := by
  have e0 : (0 : Int32).toInt = 0 := by decide
  have e1 : (3 : Int32).toInt = 3 := by decide
  have e2 : (7 : Int32).toInt = 7 := by decide
  have f0 : (0 : Int64).toInt = 0 := by decide
  have f1 : (3 : Int64).toInt = 3 := by decide
  have f2 : (7 : Int64).toInt = 7 := by decide
  simp only [lg_cmp_lt0, lg_cmp_le0, lg_cmp_gt0, lg_cmp_ge0, lg_cmp_eq0] at *
  simp only [Int64.lt_iff_toInt_lt, Int64.le_iff_toInt_le, ← Int64.toInt_inj, Int32.toInt_toInt64, Int32.lt_iff_toInt_lt, Int32.le_iff_toInt_le, ← Int32.toInt_inj, e0, e1, e2, f0, f1, f2] at *
  omega

theorem iv278 (x : Int32) (h0 : ¬ 3 < x) : ¬ 0 < (lg_cmp (x).toInt64 3) := by
  have e0 : (0 : Int32).toInt = 0 := by decide
  have e1 : (3 : Int32).toInt = 3 := by decide
  have f0 : (0 : Int64).toInt = 0 := by decide
  have f1 : (3 : Int64).toInt = 3 := by decide
  simp only [lg_cmp_lt0, lg_cmp_le0, lg_cmp_gt0, lg_cmp_ge0, lg_cmp_eq0] at *
  simp only [Int64.lt_iff_toInt_lt, Int64.le_iff_toInt_le, ← Int64.toInt_inj, Int32.toInt_toInt64, Int32.lt_iff_toInt_lt, Int32.le_iff_toInt_le, ← Int32.toInt_inj, e0, e1, f0, f1] at *
  omega

theorem iv279 (x : Int32) (h0 : 1 < x) : 0 < (lg_cmp (x).toInt64 1) := by
  have e0 : (0 : Int32).toInt = 0 := by decide
  have e1 : (1 : Int32).toInt = 1 := by decide
  have f0 : (0 : Int64).toInt = 0 := by decide
  have f1 : (1 : Int64).toInt = 1 := by decide
  simp only [lg_cmp_lt0, lg_cmp_le0, lg_cmp_gt0, lg_cmp_ge0, lg_cmp_eq0] at *
  simp only [Int64.lt_iff_toInt_lt, Int64.le_iff_toInt_le, ← Int64.toInt_inj, Int32.toInt_toInt64, Int32.lt_iff_toInt_lt, Int32.le_iff_toInt_le, ← Int32.toInt_inj, e0, e1, f0, f1] at *
  omega

set_option maxHeartbeats 4000000 in
set_option maxRecDepth 100000 in
theorem k_X6_costOf_18 (l : Launch) (D : va_G) (κ ε : Nat → Nat) (h0 h1 h2 h3 : Nat) (sz : Nat) (p0 : Int32) (hf0 : ¬ 3 < p0) (hf1 : 1 < p0) : Met l yX6_costOf wsX6_costOf ({ frames := 1, cells := 0, slots := 0, locals := 26 }) (va_Pc [.ref h0, .int p0] (Pre2 D κ ε [(h0, .inr (8, [.int 0, .int 0, .int 2, .ref h1, .ref h2, .int 0, .int 500, .int 0, .int 0, .int 0, .ref h3]))] sz)) (va_Qi (fun r (u : List Value) => (0 < (lg_cmp (p0).toInt64 0)) ∧ ((lg_cmp (p0).toInt64 1000000) < 0) ∧ (¬ 0 < (lg_cmp (p0).toInt64 500000)) ∧ (¬ 0 < (lg_cmp (p0).toInt64 250000)) ∧ (¬ 0 < (lg_cmp (p0).toInt64 125000)) ∧ (¬ 0 < (lg_cmp (p0).toInt64 62500)) ∧ (¬ 0 < (lg_cmp (p0).toInt64 31250)) ∧ (¬ 0 < (lg_cmp (p0).toInt64 15625)) ∧ (¬ 0 < (lg_cmp (p0).toInt64 7812)) ∧ (¬ 0 < (lg_cmp (p0).toInt64 3906)) ∧ (¬ 0 < (lg_cmp (p0).toInt64 1953)) ∧ (¬ 0 < (lg_cmp (p0).toInt64 976)) ∧ (¬ 0 < (lg_cmp (p0).toInt64 488)) ∧ (¬ 0 < (lg_cmp (p0).toInt64 244)) ∧ (¬ 0 < (lg_cmp (p0).toInt64 122)) ∧ (¬ 0 < (lg_cmp (p0).toInt64 61)) ∧ (¬ 0 < (lg_cmp (p0).toInt64 30)) ∧ (¬ 0 < (lg_cmp (p0).toInt64 15)) ∧ (¬ 0 < (lg_cmp (p0).toInt64 7)) ∧ (¬ 0 < (lg_cmp (p0).toInt64 3)) ∧ (0 < (lg_cmp (p0).toInt64 1)) ∧ (u[0]? = some (.int 0)) ∧ (r = ((18432 + ((1024 * (3 - (p0).toInt64)) / 2))).toInt32)) (fun u t => va_P D vwCl [(h0, .inr (8, u))] t.heap ∧ va_D (va_A [(h0, .inr (8, [.int 0, .int 0, .int 2, .ref h1, .ref h2, .int 0, .int 500, .int 0, .int 0, .int 0, .ref h3]))] sz) [(h0, .inr (8, u))]) (va_A [(h0, .inr (8, [.int 0, .int 0, .int 2, .ref h1, .ref h2, .int 0, .int 500, .int 0, .int 0, .int 0, .ref h3]))] sz)) 0 0 (va_A [(h0, .inr (8, [.int 0, .int 0, .int 2, .ref h1, .ref h2, .int 0, .int 500, .int 0, .int 0, .int 0, .ref h3]))] sz) := by
  refine Met.ofW (cc := cX6_costOf) (maxL := 2) (ret := (some .int)) (by decide) rfl ?_
  intro p e s m args below meth c s₁ B hml hv
  obtain ⟨rfl, hsz, hP, hK, hD0, hE9⟩ := hv
  have hx := B.exec
  have hb := B.bytes
  have hr := B.returns
  have hts := atoms_spec (ws := wsX6_costOf) B.pre
  have hown : s.vm.findClass RX6 = some m.cls := findClass_of_methodNamed B.named
  have hlocks := B.notSynchronized
  subst hsz
  have hD := hD0.self (sz := s.heap.size)
  generalize hAe : va_A [(h0, .inr (8, [.int 0, .int 0, .int 2, .ref h1, .ref h2, .int 0, .int 500, .int 0, .int 0, .int 0, .ref h3]))] s.heap.size = A at hD hE9 ⊢
  have hE := hE9.1
  have hDc := hE9.2
  have hA : ∀ q : Nat, s.heap.size ≤ q → A q := fun q h => by rw [← hAe]; exact Or.inr h
  have hS : va_S A s.heap s.heap [] := va_S.rf
  have hP : va_P D vwCl [(h0, .inr (8, [.int 0, .int 0, .int 2, .ref h1, .ref h2, .int 0, .int 500, .int 0, .int 0, .int 0, .ref h3]))] s.heap := hP
  have hl := lv_entry [.ref h0, .int p0] (n := 2) (Nat.le_of_ble_eq_true rfl)
  rw [lg_entry_eq]
  generalize (lg_sl [.ref h0, .int p0] ++ List.replicate (2 - (lg_sl [.ref h0, .int p0]).length) Slot.unset).toArray = ls at hl ⊢
  have hl : lv_has ls 2 [(0, .ref h0), (1, .int p0)] := hl
  refine lv_aload_n hx hb dX6_costOf_0 rfl (lv_at hl 0 rfl) ?_
  refine lv_iload_n hx hb dX6_costOf_1 rfl (lv_at hl 1 rfl) ?_
  refine lv_i2l (v := (p0).toInt64) hx hb dX6_costOf_2 rfl ?_
  refine vp_callSi (W.runS (As := [.long (p0).toInt64]) (rest := [.ref h0]) ⟨hx, hb, hml, hown, hts⟩ (k_X6_cost_0 l D κ ε ((p0).toInt64)) (va_cwS 1 hts gX6_costOf_X6_cost rfl rfl rfl (by decide +kernel) ⟨(Nat.le_of_ble_eq_true rfl), (Nat.le_of_ble_eq_true rfl)⟩) (pre0_S (wc := []) hP hK [] rfl) rfl rfl hl.1 rfl (lv_room (Nat.le_of_ble_eq_true rfl)) dX6_costOf_3 ⟨(Nat.le_of_ble_eq_true rfl), (Nat.le_of_ble_eq_true rfl)⟩) (fun r hw => ?_)
  rcases hw with ⟨c1, c2, c3, hv4⟩ | ⟨c5, c6, c7, c8, hv9⟩ | ⟨c10, c11, c12, c13, c14, hv15⟩ | ⟨c16, c17, c18, c19, c20, c21, hv22⟩ | ⟨c23, c24, c25, c26, c27, c28, c29, hv30⟩ | ⟨c31, c32, c33, c34, c35, c36, c37, c38, hv39⟩ | ⟨c40, c41, c42, c43, c44, c45, c46, c47, c48, hv49⟩ | ⟨c50, c51, c52, c53, c54, c55, c56, c57, c58, c59, hv60⟩ | ⟨c61, c62, c63, c64, c65, c66, c67, c68, c69, c70, c71, hv72⟩ | ⟨c73, c74, c75, c76, c77, c78, c79, c80, c81, c82, c83, c84, hv85⟩ | ⟨c86, c87, c88, c89, c90, c91, c92, c93, c94, c95, c96, c97, c98, hv99⟩ | ⟨c100, c101, c102, c103, c104, c105, c106, c107, c108, c109, c110, c111, c112, c113, hv114⟩ | ⟨c115, c116, c117, c118, c119, c120, c121, c122, c123, c124, c125, c126, c127, c128, c129, hv130⟩ | ⟨c131, c132, c133, c134, c135, c136, c137, c138, c139, c140, c141, c142, c143, c144, c145, c146, hv147⟩ | ⟨c148, c149, c150, c151, c152, c153, c154, c155, c156, c157, c158, c159, c160, c161, c162, c163, c164, hv165⟩ | ⟨c166, c167, c168, c169, c170, c171, c172, c173, c174, c175, c176, c177, c178, c179, c180, c181, c182, c183, hv184⟩ | ⟨c185, c186, c187, c188, c189, c190, c191, c192, c193, c194, c195, c196, c197, c198, c199, c200, c201, c202, c203, hv204⟩ | ⟨c205, c206, c207, c208, c209, c210, c211, c212, c213, c214, c215, c216, c217, c218, c219, c220, c221, c222, c223, c224, hv225⟩ | ⟨c226, c227, c228, c229, c230, c231, c232, c233, c234, c235, c236, c237, c238, c239, c240, c241, c242, c243, c244, c245, c246, hv247⟩ | ⟨c248, c249, c250, c251, c252, c253, c254, c255, c256, c257, c258, c259, c260, c261, c262, c263, c264, c265, c266, c267, c268, hv269⟩ | ⟨c270, c271, rfl⟩ | ⟨c272, rfl⟩
  · skip
    rw [hv4]
    exact absurd c3 (iv261 _ hf0)
  · skip
    rw [hv9]
    exact absurd c8 (iv262 _ hf0)
  · skip
    rw [hv15]
    exact absurd c14 (iv263 _ hf0)
  · skip
    rw [hv22]
    exact absurd c21 (iv264 _ hf0)
  · skip
    rw [hv30]
    exact absurd c29 (iv265 _ hf0)
  · skip
    rw [hv39]
    exact absurd c38 (iv266 _ hf0)
  · skip
    rw [hv49]
    exact absurd c48 (iv267 _ hf0)
  · skip
    rw [hv60]
    exact absurd c59 (iv268 _ hf0)
  · skip
    rw [hv72]
    exact absurd c71 (iv269 _ hf0)
  · skip
    rw [hv85]
    exact absurd c84 (iv270 _ hf0)
  · skip
    rw [hv99]
    exact absurd c98 (iv271 _ hf0)
  · skip
    rw [hv114]
    exact absurd c113 (iv272 _ hf0)
  · skip
    rw [hv130]
    exact absurd c129 (iv273 _ hf0)
  · skip
    rw [hv147]
    exact absurd c146 (iv274 _ hf0)
  · skip
    rw [hv165]
    exact absurd c164 (iv275 _ hf0)
  · skip
    rw [hv184]
    exact absurd c183 (iv276 _ hf0)
  · skip
    rw [hv204]
    exact absurd c203 (iv277 _ hf0)
  · skip
    rw [hv225]
    exact absurd c224 (iv278 _ hf0)
  · skip
    rw [hv247]
    have hF := va_free (wc := [(h0, .inr (8, [.int 0, .int 0, .int 2, .ref h1, .ref h2, .int 0, .int 500, .int 0, .int 0, .int 0, .ref h3]))]) hD hS hA [0] rfl
    refine va_calli (va_runV (As := [.int ((18432 + ((1024 * (3 - (p0).toInt64)) / 2))).toInt32]) (rest := []) ⟨hx, hb, hml, hown, hts⟩ (k_X6_plain_2 l D κ ε h0 h1 h2 h3 s.heap.size (((18432 + ((1024 * (3 - (p0).toInt64)) / 2))).toInt32) (0) (0) (2) (0) (500) (0) (0)) (cwV 1 hts gX6_costOf_X6_plain rfl rfl rfl (by decide +kernel) ⟨(Nat.le_of_ble_eq_true rfl), (Nat.le_of_ble_eq_true rfl)⟩) (pre2_V (q0 := 0) (ci := 8) (wc := [(h0, .inr (8, [.int 0, .int 0, .int 2, .ref h1, .ref h2, .int 0, .int 500, .int 0, .int 0, .int 0, .ref h3]))]) hP hD hK hE9 hS hA [0] (by decide) rfl rfl rfl) rfl rfl hl.1 rfl (lv_room (Nat.le_of_ble_eq_true rfl)) dX6_costOf_6 ⟨(Nat.le_of_ble_eq_true rfl), (Nat.le_of_ble_eq_true rfl)⟩) hS (fun q _ h => hF q h) hF (fun r u273 t H locs ht hvm hw hB hz1 hk1 hS => ?_)
    try dsimp only at hw hB
    obtain ⟨hP1, hD1⟩ := hB
    rw [ht] at hP1
    obtain ⟨hP, hD⟩ := post_j (ws' := [(h0, .inr (8, [.int 0, .int 0, .int 2, .ref h1, .ref h2, .int 0, .int 500, .int 0, .int 0, .int 0, .ref h3]))]) (wr := []) (w1 := [(h0, .inr (8, [.int 0, .int 0, .int 2, .ref h1, .ref h2, .int 0, .int 500, .int 0, .int 0, .int 0, .ref h3]))]) hP hD hF [0] rfl [] rfl (by decide) (by decide) hk1 hP1 hD1 [0] (by decide) rfl
    have hP : va_P D vwCl [(h0, .inr (8, [.int 0, .int 0, .int 2, .ref h1, .ref h2, .int 0, .int 500, .int 0, .int 0, .int 0, .ref h3]))] H := hP
    have hD : va_D A [(h0, .inr (8, [.int 0, .int 0, .int 2, .ref h1, .ref h2, .int 0, .int 500, .int 0, .int 0, .int 0, .ref h3]))] := hD
    rw [hw]
    have hP9 := hP.sub (ws' := [(h0, .inr (8, [.int 0, .int 0, .int 2, .ref h1, .ref h2, .int 0, .int 500, .int 0, .int 0, .int 0, .ref h3]))]) [0] rfl
    have hD9 := hD.sub (ws' := [(h0, .inr (8, [.int 0, .int 0, .int 2, .ref h1, .ref h2, .int 0, .int 500, .int 0, .int 0, .int 0, .ref h3]))]) [0] (by decide) rfl
    exact W.iret (v := ((18432 + ((1024 * (3 - (p0).toInt64)) / 2))).toInt32) hx hb hr (fun t ht hW => ⟨⟨((18432 + ((1024 * (3 - (p0).toInt64)) / 2))).toInt32, [.int 0, .int 0, .int 2, .ref h1, .ref h2, .int 0, .int 500, .int 0, .int 0, .int 0, .ref h3], rfl, ⟨c226, c227, c228, c229, c230, c231, c232, c233, c234, c235, c236, c237, c238, c239, c240, c241, c242, c243, c244, c245, c246, rfl, rfl⟩, by rw [ht]; exact hP9, hD9⟩, hS.F ht⟩) hS.2.2 dX6_costOf_9
  · skip
    rw [hv269]
    exact absurd (iv279 _ hf1) c268
  · skip
    exact absurd (iv260 _ hf0) c271
  · skip
    exact absurd (iv259 _ hf1) c272

theorem iv280 (x : Int32) (h0 : 0 < (lg_cmp (x).toInt64 1)) : 0 < x := by
  have e0 : (0 : Int32).toInt = 0 := by decide
  have e1 : (1 : Int32).toInt = 1 := by decide
  have f0 : (0 : Int64).toInt = 0 := by decide
  have f1 : (1 : Int64).toInt = 1 := by decide
  simp only [lg_cmp_lt0, lg_cmp_le0, lg_cmp_gt0, lg_cmp_ge0, lg_cmp_eq0] at *
  simp only [Int64.lt_iff_toInt_lt, Int64.le_iff_toInt_le, ← Int64.toInt_inj, Int32.toInt_toInt64, Int32.lt_iff_toInt_lt, Int32.le_iff_toInt_le, ← Int32.toInt_inj, e0, e1, f0, f1] at *
  omega

theorem iv281 (x : Int32) (h0 : ¬ 0 < (lg_cmp (x).toInt64 3)) : x ≤ 3 := by
  have e0 : (0 : Int32).toInt = 0 := by decide
  have e1 : (3 : Int32).toInt = 3 := by decide
  have f0 : (0 : Int64).toInt = 0 := by decide
  have f1 : (3 : Int64).toInt = 3 := by decide
  simp only [lg_cmp_lt0, lg_cmp_le0, lg_cmp_gt0, lg_cmp_ge0, lg_cmp_eq0] at *
  simp only [Int64.lt_iff_toInt_lt, Int64.le_iff_toInt_le, ← Int64.toInt_inj, Int32.toInt_toInt64, Int32.lt_iff_toInt_lt, Int32.le_iff_toInt_le, ← Int32.toInt_inj, e0, e1, f0, f1] at *
  omega

theorem iv282 (x : Int32) (h0 : 0 < x) : 0 < (lg_cmp (x).toInt64 0) := by
  have e0 : (0 : Int32).toInt = 0 := by decide
  have f0 : (0 : Int64).toInt = 0 := by decide
  simp only [lg_cmp_lt0, lg_cmp_le0, lg_cmp_gt0, lg_cmp_ge0, lg_cmp_eq0] at *
  simp only [Int64.lt_iff_toInt_lt, Int64.le_iff_toInt_le, ← Int64.toInt_inj, Int32.toInt_toInt64, Int32.lt_iff_toInt_lt, Int32.le_iff_toInt_le, ← Int32.toInt_inj, e0, f0] at *
  omega

theorem iv283 (x : Int32) (h0 : ¬ 1 < x) : (lg_cmp (x).toInt64 1000000) < 0 := by
  have e0 : (0 : Int32).toInt = 0 := by decide
  have e1 : (1 : Int32).toInt = 1 := by decide
  have e2 : (1000000 : Int32).toInt = 1000000 := by decide
  have f0 : (0 : Int64).toInt = 0 := by decide
  have f1 : (1 : Int64).toInt = 1 := by decide
  have f2 : (1000000 : Int64).toInt = 1000000 := by decide
  simp only [lg_cmp_lt0, lg_cmp_le0, lg_cmp_gt0, lg_cmp_ge0, lg_cmp_eq0] at *
  simp only [Int64.lt_iff_toInt_lt, Int64.le_iff_toInt_le, ← Int64.toInt_inj, Int32.toInt_toInt64, Int32.lt_iff_toInt_lt, Int32.le_iff_toInt_le, ← Int32.toInt_inj, e0, e1, e2, f0, f1, f2] at *
  omega

theorem iv284 (x : Int32) (h0 : ¬ 1 < x) : ¬ 0 < (lg_cmp (x).toInt64 500000) := by
  have e0 : (0 : Int32).toInt = 0 := by decide
  have e1 : (1 : Int32).toInt = 1 := by decide
  have e2 : (500000 : Int32).toInt = 500000 := by decide
  have f0 : (0 : Int64).toInt = 0 := by decide
  have f1 : (1 : Int64).toInt = 1 := by decide
  have f2 : (500000 : Int64).toInt = 500000 := by decide
  simp only [lg_cmp_lt0, lg_cmp_le0, lg_cmp_gt0, lg_cmp_ge0, lg_cmp_eq0] at *
  simp only [Int64.lt_iff_toInt_lt, Int64.le_iff_toInt_le, ← Int64.toInt_inj, Int32.toInt_toInt64, Int32.lt_iff_toInt_lt, Int32.le_iff_toInt_le, ← Int32.toInt_inj, e0, e1, e2, f0, f1, f2] at *
  omega

theorem iv285 (x : Int32) (h0 : ¬ 1 < x) : ¬ 0 < (lg_cmp (x).toInt64 250000) := by
  have e0 : (0 : Int32).toInt = 0 := by decide
  have e1 : (1 : Int32).toInt = 1 := by decide
  have e2 : (250000 : Int32).toInt = 250000 := by decide
  have f0 : (0 : Int64).toInt = 0 := by decide
  have f1 : (1 : Int64).toInt = 1 := by decide
  have f2 : (250000 : Int64).toInt = 250000 := by decide
  simp only [lg_cmp_lt0, lg_cmp_le0, lg_cmp_gt0, lg_cmp_ge0, lg_cmp_eq0] at *
  simp only [Int64.lt_iff_toInt_lt, Int64.le_iff_toInt_le, ← Int64.toInt_inj, Int32.toInt_toInt64, Int32.lt_iff_toInt_lt, Int32.le_iff_toInt_le, ← Int32.toInt_inj, e0, e1, e2, f0, f1, f2] at *
  omega

theorem iv286 (x : Int32) (h0 : ¬ 1 < x) : ¬ 0 < (lg_cmp (x).toInt64 125000) := by
  have e0 : (0 : Int32).toInt = 0 := by decide
  have e1 : (1 : Int32).toInt = 1 := by decide
  have e2 : (125000 : Int32).toInt = 125000 := by decide
  have f0 : (0 : Int64).toInt = 0 := by decide
  have f1 : (1 : Int64).toInt = 1 := by decide
  have f2 : (125000 : Int64).toInt = 125000 := by decide
  simp only [lg_cmp_lt0, lg_cmp_le0, lg_cmp_gt0, lg_cmp_ge0, lg_cmp_eq0] at *
  simp only [Int64.lt_iff_toInt_lt, Int64.le_iff_toInt_le, ← Int64.toInt_inj, Int32.toInt_toInt64, Int32.lt_iff_toInt_lt, Int32.le_iff_toInt_le, ← Int32.toInt_inj, e0, e1, e2, f0, f1, f2] at *
  omega

theorem iv287 (x : Int32) (h0 : ¬ 1 < x) : ¬ 0 < (lg_cmp (x).toInt64 62500) := by
  have e0 : (0 : Int32).toInt = 0 := by decide
  have e1 : (1 : Int32).toInt = 1 := by decide
  have e2 : (62500 : Int32).toInt = 62500 := by decide
  have f0 : (0 : Int64).toInt = 0 := by decide
  have f1 : (1 : Int64).toInt = 1 := by decide
  have f2 : (62500 : Int64).toInt = 62500 := by decide
  simp only [lg_cmp_lt0, lg_cmp_le0, lg_cmp_gt0, lg_cmp_ge0, lg_cmp_eq0] at *
  simp only [Int64.lt_iff_toInt_lt, Int64.le_iff_toInt_le, ← Int64.toInt_inj, Int32.toInt_toInt64, Int32.lt_iff_toInt_lt, Int32.le_iff_toInt_le, ← Int32.toInt_inj, e0, e1, e2, f0, f1, f2] at *
  omega

theorem iv288 (x : Int32) (h0 : ¬ 1 < x) : ¬ 0 < (lg_cmp (x).toInt64 31250) := by
  have e0 : (0 : Int32).toInt = 0 := by decide
  have e1 : (1 : Int32).toInt = 1 := by decide
  have e2 : (31250 : Int32).toInt = 31250 := by decide
  have f0 : (0 : Int64).toInt = 0 := by decide
  have f1 : (1 : Int64).toInt = 1 := by decide
  have f2 : (31250 : Int64).toInt = 31250 := by decide
  simp only [lg_cmp_lt0, lg_cmp_le0, lg_cmp_gt0, lg_cmp_ge0, lg_cmp_eq0] at *
  simp only [Int64.lt_iff_toInt_lt, Int64.le_iff_toInt_le, ← Int64.toInt_inj, Int32.toInt_toInt64, Int32.lt_iff_toInt_lt, Int32.le_iff_toInt_le, ← Int32.toInt_inj, e0, e1, e2, f0, f1, f2] at *
  omega

theorem iv289 (x : Int32) (h0 : ¬ 1 < x) : ¬ 0 < (lg_cmp (x).toInt64 15625) := by
  have e0 : (0 : Int32).toInt = 0 := by decide
  have e1 : (1 : Int32).toInt = 1 := by decide
  have e2 : (15625 : Int32).toInt = 15625 := by decide
  have f0 : (0 : Int64).toInt = 0 := by decide
  have f1 : (1 : Int64).toInt = 1 := by decide
  have f2 : (15625 : Int64).toInt = 15625 := by decide
  simp only [lg_cmp_lt0, lg_cmp_le0, lg_cmp_gt0, lg_cmp_ge0, lg_cmp_eq0] at *
  simp only [Int64.lt_iff_toInt_lt, Int64.le_iff_toInt_le, ← Int64.toInt_inj, Int32.toInt_toInt64, Int32.lt_iff_toInt_lt, Int32.le_iff_toInt_le, ← Int32.toInt_inj, e0, e1, e2, f0, f1, f2] at *
  omega

theorem iv290 (x : Int32) (h0 : ¬ 1 < x) : ¬ 0 < (lg_cmp (x).toInt64 7812) := by
  have e0 : (0 : Int32).toInt = 0 := by decide
  have e1 : (1 : Int32).toInt = 1 := by decide
  have e2 : (7812 : Int32).toInt = 7812 := by decide
  have f0 : (0 : Int64).toInt = 0 := by decide
  have f1 : (1 : Int64).toInt = 1 := by decide
  have f2 : (7812 : Int64).toInt = 7812 := by decide
  simp only [lg_cmp_lt0, lg_cmp_le0, lg_cmp_gt0, lg_cmp_ge0, lg_cmp_eq0] at *
  simp only [Int64.lt_iff_toInt_lt, Int64.le_iff_toInt_le, ← Int64.toInt_inj, Int32.toInt_toInt64, Int32.lt_iff_toInt_lt, Int32.le_iff_toInt_le, ← Int32.toInt_inj, e0, e1, e2, f0, f1, f2] at *
  omega

theorem iv291 (x : Int32) (h0 : ¬ 1 < x) : ¬ 0 < (lg_cmp (x).toInt64 3906) := by
  have e0 : (0 : Int32).toInt = 0 := by decide
  have e1 : (1 : Int32).toInt = 1 := by decide
  have e2 : (3906 : Int32).toInt = 3906 := by decide
  have f0 : (0 : Int64).toInt = 0 := by decide
  have f1 : (1 : Int64).toInt = 1 := by decide
  have f2 : (3906 : Int64).toInt = 3906 := by decide
  simp only [lg_cmp_lt0, lg_cmp_le0, lg_cmp_gt0, lg_cmp_ge0, lg_cmp_eq0] at *
  simp only [Int64.lt_iff_toInt_lt, Int64.le_iff_toInt_le, ← Int64.toInt_inj, Int32.toInt_toInt64, Int32.lt_iff_toInt_lt, Int32.le_iff_toInt_le, ← Int32.toInt_inj, e0, e1, e2, f0, f1, f2] at *
  omega

theorem iv292 (x : Int32) (h0 : ¬ 1 < x) : ¬ 0 < (lg_cmp (x).toInt64 1953) := by
  have e0 : (0 : Int32).toInt = 0 := by decide
  have e1 : (1 : Int32).toInt = 1 := by decide
  have e2 : (1953 : Int32).toInt = 1953 := by decide
  have f0 : (0 : Int64).toInt = 0 := by decide
  have f1 : (1 : Int64).toInt = 1 := by decide
  have f2 : (1953 : Int64).toInt = 1953 := by decide
  simp only [lg_cmp_lt0, lg_cmp_le0, lg_cmp_gt0, lg_cmp_ge0, lg_cmp_eq0] at *
  simp only [Int64.lt_iff_toInt_lt, Int64.le_iff_toInt_le, ← Int64.toInt_inj, Int32.toInt_toInt64, Int32.lt_iff_toInt_lt, Int32.le_iff_toInt_le, ← Int32.toInt_inj, e0, e1, e2, f0, f1, f2] at *
  omega

theorem iv293 (x : Int32) (h0 : ¬ 1 < x) : ¬ 0 < (lg_cmp (x).toInt64 976) := by
  have e0 : (0 : Int32).toInt = 0 := by decide
  have e1 : (1 : Int32).toInt = 1 := by decide
  have e2 : (976 : Int32).toInt = 976 := by decide
  have f0 : (0 : Int64).toInt = 0 := by decide
  have f1 : (1 : Int64).toInt = 1 := by decide
  have f2 : (976 : Int64).toInt = 976 := by decide
  simp only [lg_cmp_lt0, lg_cmp_le0, lg_cmp_gt0, lg_cmp_ge0, lg_cmp_eq0] at *
  simp only [Int64.lt_iff_toInt_lt, Int64.le_iff_toInt_le, ← Int64.toInt_inj, Int32.toInt_toInt64, Int32.lt_iff_toInt_lt, Int32.le_iff_toInt_le, ← Int32.toInt_inj, e0, e1, e2, f0, f1, f2] at *
  omega

theorem iv294 (x : Int32) (h0 : ¬ 1 < x) : ¬ 0 < (lg_cmp (x).toInt64 488) := by
  have e0 : (0 : Int32).toInt = 0 := by decide
  have e1 : (1 : Int32).toInt = 1 := by decide
  have e2 : (488 : Int32).toInt = 488 := by decide
  have f0 : (0 : Int64).toInt = 0 := by decide
  have f1 : (1 : Int64).toInt = 1 := by decide
  have f2 : (488 : Int64).toInt = 488 := by decide
  simp only [lg_cmp_lt0, lg_cmp_le0, lg_cmp_gt0, lg_cmp_ge0, lg_cmp_eq0] at *
  simp only [Int64.lt_iff_toInt_lt, Int64.le_iff_toInt_le, ← Int64.toInt_inj, Int32.toInt_toInt64, Int32.lt_iff_toInt_lt, Int32.le_iff_toInt_le, ← Int32.toInt_inj, e0, e1, e2, f0, f1, f2] at *
  omega

theorem iv295 (x : Int32) (h0 : ¬ 1 < x) : ¬ 0 < (lg_cmp (x).toInt64 244) := by
  have e0 : (0 : Int32).toInt = 0 := by decide
  have e1 : (1 : Int32).toInt = 1 := by decide
  have e2 : (244 : Int32).toInt = 244 := by decide
  have f0 : (0 : Int64).toInt = 0 := by decide
  have f1 : (1 : Int64).toInt = 1 := by decide
  have f2 : (244 : Int64).toInt = 244 := by decide
  simp only [lg_cmp_lt0, lg_cmp_le0, lg_cmp_gt0, lg_cmp_ge0, lg_cmp_eq0] at *
  simp only [Int64.lt_iff_toInt_lt, Int64.le_iff_toInt_le, ← Int64.toInt_inj, Int32.toInt_toInt64, Int32.lt_iff_toInt_lt, Int32.le_iff_toInt_le, ← Int32.toInt_inj, e0, e1, e2, f0, f1, f2] at *
  omega

theorem iv296 (x : Int32) (h0 : ¬ 1 < x) : ¬ 0 < (lg_cmp (x).toInt64 122) := by
  have e0 : (0 : Int32).toInt = 0 := by decide
  have e1 : (1 : Int32).toInt = 1 := by decide
  have e2 : (122 : Int32).toInt = 122 := by decide
  have f0 : (0 : Int64).toInt = 0 := by decide
  have f1 : (1 : Int64).toInt = 1 := by decide
  have f2 : (122 : Int64).toInt = 122 := by decide
  simp only [lg_cmp_lt0, lg_cmp_le0, lg_cmp_gt0, lg_cmp_ge0, lg_cmp_eq0] at *
  simp only [Int64.lt_iff_toInt_lt, Int64.le_iff_toInt_le, ← Int64.toInt_inj, Int32.toInt_toInt64, Int32.lt_iff_toInt_lt, Int32.le_iff_toInt_le, ← Int32.toInt_inj, e0, e1, e2, f0, f1, f2] at *
  omega

theorem iv297 (x : Int32) (h0 : ¬ 1 < x) : ¬ 0 < (lg_cmp (x).toInt64 61) := by
  have e0 : (0 : Int32).toInt = 0 := by decide
  have e1 : (1 : Int32).toInt = 1 := by decide
  have e2 : (61 : Int32).toInt = 61 := by decide
  have f0 : (0 : Int64).toInt = 0 := by decide
  have f1 : (1 : Int64).toInt = 1 := by decide
  have f2 : (61 : Int64).toInt = 61 := by decide
  simp only [lg_cmp_lt0, lg_cmp_le0, lg_cmp_gt0, lg_cmp_ge0, lg_cmp_eq0] at *
  simp only [Int64.lt_iff_toInt_lt, Int64.le_iff_toInt_le, ← Int64.toInt_inj, Int32.toInt_toInt64, Int32.lt_iff_toInt_lt, Int32.le_iff_toInt_le, ← Int32.toInt_inj, e0, e1, e2, f0, f1, f2] at *
  omega

theorem iv298 (x : Int32) (h0 : ¬ 1 < x) : ¬ 0 < (lg_cmp (x).toInt64 30) := by
  have e0 : (0 : Int32).toInt = 0 := by decide
  have e1 : (1 : Int32).toInt = 1 := by decide
  have e2 : (30 : Int32).toInt = 30 := by decide
  have f0 : (0 : Int64).toInt = 0 := by decide
  have f1 : (1 : Int64).toInt = 1 := by decide
  have f2 : (30 : Int64).toInt = 30 := by decide
  simp only [lg_cmp_lt0, lg_cmp_le0, lg_cmp_gt0, lg_cmp_ge0, lg_cmp_eq0] at *
  simp only [Int64.lt_iff_toInt_lt, Int64.le_iff_toInt_le, ← Int64.toInt_inj, Int32.toInt_toInt64, Int32.lt_iff_toInt_lt, Int32.le_iff_toInt_le, ← Int32.toInt_inj, e0, e1, e2, f0, f1, f2] at *
  omega

theorem iv299 (x : Int32) (h0 : ¬ 1 < x) : ¬ 0 < (lg_cmp (x).toInt64 15) := by
  have e0 : (0 : Int32).toInt = 0 := by decide
  have e1 : (1 : Int32).toInt = 1 := by decide
  have e2 : (15 : Int32).toInt = 15 := by decide
  have f0 : (0 : Int64).toInt = 0 := by decide
  have f1 : (1 : Int64).toInt = 1 := by decide
  have f2 : (15 : Int64).toInt = 15 := by decide
  simp only [lg_cmp_lt0, lg_cmp_le0, lg_cmp_gt0, lg_cmp_ge0, lg_cmp_eq0] at *
  simp only [Int64.lt_iff_toInt_lt, Int64.le_iff_toInt_le, ← Int64.toInt_inj, Int32.toInt_toInt64, Int32.lt_iff_toInt_lt, Int32.le_iff_toInt_le, ← Int32.toInt_inj, e0, e1, e2, f0, f1, f2] at *
  omega

theorem iv300 (x : Int32) (h0 : ¬ 1 < x) : ¬ 0 < (lg_cmp (x).toInt64 7) := by
  have e0 : (0 : Int32).toInt = 0 := by decide
  have e1 : (1 : Int32).toInt = 1 := by decide
  have e2 : (7 : Int32).toInt = 7 := by decide
  have f0 : (0 : Int64).toInt = 0 := by decide
  have f1 : (1 : Int64).toInt = 1 := by decide
  have f2 : (7 : Int64).toInt = 7 := by decide
  simp only [lg_cmp_lt0, lg_cmp_le0, lg_cmp_gt0, lg_cmp_ge0, lg_cmp_eq0] at *
  simp only [Int64.lt_iff_toInt_lt, Int64.le_iff_toInt_le, ← Int64.toInt_inj, Int32.toInt_toInt64, Int32.lt_iff_toInt_lt, Int32.le_iff_toInt_le, ← Int32.toInt_inj, e0, e1, e2, f0, f1, f2] at *
  omega

theorem iv301 (x : Int32) (h0 : ¬ 1 < x) : ¬ 0 < (lg_cmp (x).toInt64 3) := by
  have e0 : (0 : Int32).toInt = 0 := by decide
  have e1 : (1 : Int32).toInt = 1 := by decide
  have e2 : (3 : Int32).toInt = 3 := by decide
  have f0 : (0 : Int64).toInt = 0 := by decide
  have f1 : (1 : Int64).toInt = 1 := by decide
  have f2 : (3 : Int64).toInt = 3 := by decide
  simp only [lg_cmp_lt0, lg_cmp_le0, lg_cmp_gt0, lg_cmp_ge0, lg_cmp_eq0] at *
  simp only [Int64.lt_iff_toInt_lt, Int64.le_iff_toInt_le, ← Int64.toInt_inj, Int32.toInt_toInt64, Int32.lt_iff_toInt_lt, Int32.le_iff_toInt_le, ← Int32.toInt_inj, e0, e1, e2, f0, f1, f2] at *
  omega

theorem iv302 (x : Int32) (h0 : ¬ 1 < x) : ¬ 0 < (lg_cmp (x).toInt64 1) := by
  have e0 : (0 : Int32).toInt = 0 := by decide
  have e1 : (1 : Int32).toInt = 1 := by decide
  have f0 : (0 : Int64).toInt = 0 := by decide
  have f1 : (1 : Int64).toInt = 1 := by decide
  simp only [lg_cmp_lt0, lg_cmp_le0, lg_cmp_gt0, lg_cmp_ge0, lg_cmp_eq0] at *
  simp only [Int64.lt_iff_toInt_lt, Int64.le_iff_toInt_le, ← Int64.toInt_inj, Int32.toInt_toInt64, Int32.lt_iff_toInt_lt, Int32.le_iff_toInt_le, ← Int32.toInt_inj, e0, e1, f0, f1] at *
  omega

set_option maxHeartbeats 4000000 in
set_option maxRecDepth 100000 in
theorem k_X6_costOf_19 (l : Launch) (D : va_G) (κ ε : Nat → Nat) (h0 h1 h2 h3 : Nat) (sz : Nat) (p0 : Int32) (hf0 : 0 < p0) (hf1 : ¬ 1 < p0) : Met l yX6_costOf wsX6_costOf ({ frames := 1, cells := 0, slots := 0, locals := 26 }) (va_Pc [.ref h0, .int p0] (Pre2 D κ ε [(h0, .inr (8, [.int 0, .int 0, .int 2, .ref h1, .ref h2, .int 0, .int 500, .int 0, .int 0, .int 0, .ref h3]))] sz)) (va_Qi (fun r (u : List Value) => (0 < (lg_cmp (p0).toInt64 0)) ∧ ((lg_cmp (p0).toInt64 1000000) < 0) ∧ (¬ 0 < (lg_cmp (p0).toInt64 500000)) ∧ (¬ 0 < (lg_cmp (p0).toInt64 250000)) ∧ (¬ 0 < (lg_cmp (p0).toInt64 125000)) ∧ (¬ 0 < (lg_cmp (p0).toInt64 62500)) ∧ (¬ 0 < (lg_cmp (p0).toInt64 31250)) ∧ (¬ 0 < (lg_cmp (p0).toInt64 15625)) ∧ (¬ 0 < (lg_cmp (p0).toInt64 7812)) ∧ (¬ 0 < (lg_cmp (p0).toInt64 3906)) ∧ (¬ 0 < (lg_cmp (p0).toInt64 1953)) ∧ (¬ 0 < (lg_cmp (p0).toInt64 976)) ∧ (¬ 0 < (lg_cmp (p0).toInt64 488)) ∧ (¬ 0 < (lg_cmp (p0).toInt64 244)) ∧ (¬ 0 < (lg_cmp (p0).toInt64 122)) ∧ (¬ 0 < (lg_cmp (p0).toInt64 61)) ∧ (¬ 0 < (lg_cmp (p0).toInt64 30)) ∧ (¬ 0 < (lg_cmp (p0).toInt64 15)) ∧ (¬ 0 < (lg_cmp (p0).toInt64 7)) ∧ (¬ 0 < (lg_cmp (p0).toInt64 3)) ∧ (¬ 0 < (lg_cmp (p0).toInt64 1)) ∧ (u[0]? = some (.int 0)) ∧ (r = ((19456 + ((1024 * (1 - (p0).toInt64)) / 1))).toInt32)) (fun u t => va_P D vwCl [(h0, .inr (8, u))] t.heap ∧ va_D (va_A [(h0, .inr (8, [.int 0, .int 0, .int 2, .ref h1, .ref h2, .int 0, .int 500, .int 0, .int 0, .int 0, .ref h3]))] sz) [(h0, .inr (8, u))]) (va_A [(h0, .inr (8, [.int 0, .int 0, .int 2, .ref h1, .ref h2, .int 0, .int 500, .int 0, .int 0, .int 0, .ref h3]))] sz)) 0 0 (va_A [(h0, .inr (8, [.int 0, .int 0, .int 2, .ref h1, .ref h2, .int 0, .int 500, .int 0, .int 0, .int 0, .ref h3]))] sz) := by
  refine Met.ofW (cc := cX6_costOf) (maxL := 2) (ret := (some .int)) (by decide) rfl ?_
  intro p e s m args below meth c s₁ B hml hv
  obtain ⟨rfl, hsz, hP, hK, hD0, hE9⟩ := hv
  have hx := B.exec
  have hb := B.bytes
  have hr := B.returns
  have hts := atoms_spec (ws := wsX6_costOf) B.pre
  have hown : s.vm.findClass RX6 = some m.cls := findClass_of_methodNamed B.named
  have hlocks := B.notSynchronized
  subst hsz
  have hD := hD0.self (sz := s.heap.size)
  generalize hAe : va_A [(h0, .inr (8, [.int 0, .int 0, .int 2, .ref h1, .ref h2, .int 0, .int 500, .int 0, .int 0, .int 0, .ref h3]))] s.heap.size = A at hD hE9 ⊢
  have hE := hE9.1
  have hDc := hE9.2
  have hA : ∀ q : Nat, s.heap.size ≤ q → A q := fun q h => by rw [← hAe]; exact Or.inr h
  have hS : va_S A s.heap s.heap [] := va_S.rf
  have hP : va_P D vwCl [(h0, .inr (8, [.int 0, .int 0, .int 2, .ref h1, .ref h2, .int 0, .int 500, .int 0, .int 0, .int 0, .ref h3]))] s.heap := hP
  have hl := lv_entry [.ref h0, .int p0] (n := 2) (Nat.le_of_ble_eq_true rfl)
  rw [lg_entry_eq]
  generalize (lg_sl [.ref h0, .int p0] ++ List.replicate (2 - (lg_sl [.ref h0, .int p0]).length) Slot.unset).toArray = ls at hl ⊢
  have hl : lv_has ls 2 [(0, .ref h0), (1, .int p0)] := hl
  refine lv_aload_n hx hb dX6_costOf_0 rfl (lv_at hl 0 rfl) ?_
  refine lv_iload_n hx hb dX6_costOf_1 rfl (lv_at hl 1 rfl) ?_
  refine lv_i2l (v := (p0).toInt64) hx hb dX6_costOf_2 rfl ?_
  refine vp_callSi (W.runS (As := [.long (p0).toInt64]) (rest := [.ref h0]) ⟨hx, hb, hml, hown, hts⟩ (k_X6_cost_0 l D κ ε ((p0).toInt64)) (va_cwS 1 hts gX6_costOf_X6_cost rfl rfl rfl (by decide +kernel) ⟨(Nat.le_of_ble_eq_true rfl), (Nat.le_of_ble_eq_true rfl)⟩) (pre0_S (wc := []) hP hK [] rfl) rfl rfl hl.1 rfl (lv_room (Nat.le_of_ble_eq_true rfl)) dX6_costOf_3 ⟨(Nat.le_of_ble_eq_true rfl), (Nat.le_of_ble_eq_true rfl)⟩) (fun r hw => ?_)
  rcases hw with ⟨c1, c2, c3, hv4⟩ | ⟨c5, c6, c7, c8, hv9⟩ | ⟨c10, c11, c12, c13, c14, hv15⟩ | ⟨c16, c17, c18, c19, c20, c21, hv22⟩ | ⟨c23, c24, c25, c26, c27, c28, c29, hv30⟩ | ⟨c31, c32, c33, c34, c35, c36, c37, c38, hv39⟩ | ⟨c40, c41, c42, c43, c44, c45, c46, c47, c48, hv49⟩ | ⟨c50, c51, c52, c53, c54, c55, c56, c57, c58, c59, hv60⟩ | ⟨c61, c62, c63, c64, c65, c66, c67, c68, c69, c70, c71, hv72⟩ | ⟨c73, c74, c75, c76, c77, c78, c79, c80, c81, c82, c83, c84, hv85⟩ | ⟨c86, c87, c88, c89, c90, c91, c92, c93, c94, c95, c96, c97, c98, hv99⟩ | ⟨c100, c101, c102, c103, c104, c105, c106, c107, c108, c109, c110, c111, c112, c113, hv114⟩ | ⟨c115, c116, c117, c118, c119, c120, c121, c122, c123, c124, c125, c126, c127, c128, c129, hv130⟩ | ⟨c131, c132, c133, c134, c135, c136, c137, c138, c139, c140, c141, c142, c143, c144, c145, c146, hv147⟩ | ⟨c148, c149, c150, c151, c152, c153, c154, c155, c156, c157, c158, c159, c160, c161, c162, c163, c164, hv165⟩ | ⟨c166, c167, c168, c169, c170, c171, c172, c173, c174, c175, c176, c177, c178, c179, c180, c181, c182, c183, hv184⟩ | ⟨c185, c186, c187, c188, c189, c190, c191, c192, c193, c194, c195, c196, c197, c198, c199, c200, c201, c202, c203, hv204⟩ | ⟨c205, c206, c207, c208, c209, c210, c211, c212, c213, c214, c215, c216, c217, c218, c219, c220, c221, c222, c223, c224, hv225⟩ | ⟨c226, c227, c228, c229, c230, c231, c232, c233, c234, c235, c236, c237, c238, c239, c240, c241, c242, c243, c244, c245, c246, hv247⟩ | ⟨c248, c249, c250, c251, c252, c253, c254, c255, c256, c257, c258, c259, c260, c261, c262, c263, c264, c265, c266, c267, c268, hv269⟩ | ⟨c270, c271, rfl⟩ | ⟨c272, rfl⟩
  · skip
    rw [hv4]
    exact absurd c3 (iv284 _ hf1)
  · skip
    rw [hv9]
    exact absurd c8 (iv285 _ hf1)
  · skip
    rw [hv15]
    exact absurd c14 (iv286 _ hf1)
  · skip
    rw [hv22]
    exact absurd c21 (iv287 _ hf1)
  · skip
    rw [hv30]
    exact absurd c29 (iv288 _ hf1)
  · skip
    rw [hv39]
    exact absurd c38 (iv289 _ hf1)
  · skip
    rw [hv49]
    exact absurd c48 (iv290 _ hf1)
  · skip
    rw [hv60]
    exact absurd c59 (iv291 _ hf1)
  · skip
    rw [hv72]
    exact absurd c71 (iv292 _ hf1)
  · skip
    rw [hv85]
    exact absurd c84 (iv293 _ hf1)
  · skip
    rw [hv99]
    exact absurd c98 (iv294 _ hf1)
  · skip
    rw [hv114]
    exact absurd c113 (iv295 _ hf1)
  · skip
    rw [hv130]
    exact absurd c129 (iv296 _ hf1)
  · skip
    rw [hv147]
    exact absurd c146 (iv297 _ hf1)
  · skip
    rw [hv165]
    exact absurd c164 (iv298 _ hf1)
  · skip
    rw [hv184]
    exact absurd c183 (iv299 _ hf1)
  · skip
    rw [hv204]
    exact absurd c203 (iv300 _ hf1)
  · skip
    rw [hv225]
    exact absurd c224 (iv301 _ hf1)
  · skip
    rw [hv247]
    exact absurd c246 (iv302 _ hf1)
  · skip
    rw [hv269]
    have hF := va_free (wc := [(h0, .inr (8, [.int 0, .int 0, .int 2, .ref h1, .ref h2, .int 0, .int 500, .int 0, .int 0, .int 0, .ref h3]))]) hD hS hA [0] rfl
    refine va_calli (va_runV (As := [.int ((19456 + ((1024 * (1 - (p0).toInt64)) / 1))).toInt32]) (rest := []) ⟨hx, hb, hml, hown, hts⟩ (k_X6_plain_2 l D κ ε h0 h1 h2 h3 s.heap.size (((19456 + ((1024 * (1 - (p0).toInt64)) / 1))).toInt32) (0) (0) (2) (0) (500) (0) (0)) (cwV 1 hts gX6_costOf_X6_plain rfl rfl rfl (by decide +kernel) ⟨(Nat.le_of_ble_eq_true rfl), (Nat.le_of_ble_eq_true rfl)⟩) (pre2_V (q0 := 0) (ci := 8) (wc := [(h0, .inr (8, [.int 0, .int 0, .int 2, .ref h1, .ref h2, .int 0, .int 500, .int 0, .int 0, .int 0, .ref h3]))]) hP hD hK hE9 hS hA [0] (by decide) rfl rfl rfl) rfl rfl hl.1 rfl (lv_room (Nat.le_of_ble_eq_true rfl)) dX6_costOf_6 ⟨(Nat.le_of_ble_eq_true rfl), (Nat.le_of_ble_eq_true rfl)⟩) hS (fun q _ h => hF q h) hF (fun r u273 t H locs ht hvm hw hB hz1 hk1 hS => ?_)
    try dsimp only at hw hB
    obtain ⟨hP1, hD1⟩ := hB
    rw [ht] at hP1
    obtain ⟨hP, hD⟩ := post_j (ws' := [(h0, .inr (8, [.int 0, .int 0, .int 2, .ref h1, .ref h2, .int 0, .int 500, .int 0, .int 0, .int 0, .ref h3]))]) (wr := []) (w1 := [(h0, .inr (8, [.int 0, .int 0, .int 2, .ref h1, .ref h2, .int 0, .int 500, .int 0, .int 0, .int 0, .ref h3]))]) hP hD hF [0] rfl [] rfl (by decide) (by decide) hk1 hP1 hD1 [0] (by decide) rfl
    have hP : va_P D vwCl [(h0, .inr (8, [.int 0, .int 0, .int 2, .ref h1, .ref h2, .int 0, .int 500, .int 0, .int 0, .int 0, .ref h3]))] H := hP
    have hD : va_D A [(h0, .inr (8, [.int 0, .int 0, .int 2, .ref h1, .ref h2, .int 0, .int 500, .int 0, .int 0, .int 0, .ref h3]))] := hD
    rw [hw]
    have hP9 := hP.sub (ws' := [(h0, .inr (8, [.int 0, .int 0, .int 2, .ref h1, .ref h2, .int 0, .int 500, .int 0, .int 0, .int 0, .ref h3]))]) [0] rfl
    have hD9 := hD.sub (ws' := [(h0, .inr (8, [.int 0, .int 0, .int 2, .ref h1, .ref h2, .int 0, .int 500, .int 0, .int 0, .int 0, .ref h3]))]) [0] (by decide) rfl
    exact W.iret (v := ((19456 + ((1024 * (1 - (p0).toInt64)) / 1))).toInt32) hx hb hr (fun t ht hW => ⟨⟨((19456 + ((1024 * (1 - (p0).toInt64)) / 1))).toInt32, [.int 0, .int 0, .int 2, .ref h1, .ref h2, .int 0, .int 500, .int 0, .int 0, .int 0, .ref h3], rfl, ⟨c248, c249, c250, c251, c252, c253, c254, c255, c256, c257, c258, c259, c260, c261, c262, c263, c264, c265, c266, c267, c268, rfl, rfl⟩, by rw [ht]; exact hP9, hD9⟩, hS.F ht⟩) hS.2.2 dX6_costOf_9
  · skip
    exact absurd (iv283 _ hf1) c271
  · skip
    exact absurd (iv282 _ hf0) c272

theorem iv303 (x : Int32) (h0 : 0 < (lg_cmp (x).toInt64 0)) : 0 < x := by
  have e0 : (0 : Int32).toInt = 0 := by decide
  have f0 : (0 : Int64).toInt = 0 := by decide
  simp only [lg_cmp_lt0, lg_cmp_le0, lg_cmp_gt0, lg_cmp_ge0, lg_cmp_eq0] at *
  simp only [Int64.lt_iff_toInt_lt, Int64.le_iff_toInt_le, ← Int64.toInt_inj, Int32.toInt_toInt64, Int32.lt_iff_toInt_lt, Int32.le_iff_toInt_le, ← Int32.toInt_inj, e0, f0] at *
  omega

theorem iv304 (x : Int32) (h0 : ¬ 0 < (lg_cmp (x).toInt64 1)) : x ≤ 1 := by
  have e0 : (0 : Int32).toInt = 0 := by decide
  have e1 : (1 : Int32).toInt = 1 := by decide
  have f0 : (0 : Int64).toInt = 0 := by decide
  have f1 : (1 : Int64).toInt = 1 := by decide
  simp only [lg_cmp_lt0, lg_cmp_le0, lg_cmp_gt0, lg_cmp_ge0, lg_cmp_eq0] at *
  simp only [Int64.lt_iff_toInt_lt, Int64.le_iff_toInt_le, ← Int64.toInt_inj, Int32.toInt_toInt64, Int32.lt_iff_toInt_lt, Int32.le_iff_toInt_le, ← Int32.toInt_inj, e0, e1, f0, f1] at *
  omega

theorem iv305 (x : Int32) (h0 : ¬ x < 1000000) : 0 < (lg_cmp (x).toInt64 0) := by
  have e0 : (0 : Int32).toInt = 0 := by decide
  have e1 : (1000000 : Int32).toInt = 1000000 := by decide
  have f0 : (0 : Int64).toInt = 0 := by decide
  have f1 : (1000000 : Int64).toInt = 1000000 := by decide
  simp only [lg_cmp_lt0, lg_cmp_le0, lg_cmp_gt0, lg_cmp_ge0, lg_cmp_eq0] at *
  simp only [Int64.lt_iff_toInt_lt, Int64.le_iff_toInt_le, ← Int64.toInt_inj, Int32.toInt_toInt64, Int32.lt_iff_toInt_lt, Int32.le_iff_toInt_le, ← Int32.toInt_inj, e0, e1, f0, f1] at *
  omega

theorem iv306 (x : Int32) (h0 : ¬ x < 1000000) : ¬ (lg_cmp (x).toInt64 1000000) < 0 := by
  have e0 : (0 : Int32).toInt = 0 := by decide
  have e1 : (1000000 : Int32).toInt = 1000000 := by decide
  have f0 : (0 : Int64).toInt = 0 := by decide
  have f1 : (1000000 : Int64).toInt = 1000000 := by decide
  simp only [lg_cmp_lt0, lg_cmp_le0, lg_cmp_gt0, lg_cmp_ge0, lg_cmp_eq0] at *
  simp only [Int64.lt_iff_toInt_lt, Int64.le_iff_toInt_le, ← Int64.toInt_inj, Int32.toInt_toInt64, Int32.lt_iff_toInt_lt, Int32.le_iff_toInt_le, ← Int32.toInt_inj, e0, e1, f0, f1] at *
  omega

set_option maxHeartbeats 4000000 in
set_option maxRecDepth 100000 in
theorem k_X6_costOf_20 (l : Launch) (D : va_G) (κ ε : Nat → Nat) (h0 h1 h2 h3 : Nat) (sz : Nat) (p0 : Int32) (hf0 : ¬ p0 < 1000000) : Met l yX6_costOf wsX6_costOf ({ frames := 1, cells := 0, slots := 0, locals := 26 }) (va_Pc [.ref h0, .int p0] (Pre2 D κ ε [(h0, .inr (8, [.int 0, .int 0, .int 2, .ref h1, .ref h2, .int 0, .int 500, .int 0, .int 0, .int 0, .ref h3]))] sz)) (va_Qi (fun r (u : List Value) => (0 < (lg_cmp (p0).toInt64 0)) ∧ (¬ (lg_cmp (p0).toInt64 1000000) < 0) ∧ (u[0]? = some (.int 0)) ∧ (r = 0)) (fun u t => va_P D vwCl [(h0, .inr (8, u))] t.heap ∧ va_D (va_A [(h0, .inr (8, [.int 0, .int 0, .int 2, .ref h1, .ref h2, .int 0, .int 500, .int 0, .int 0, .int 0, .ref h3]))] sz) [(h0, .inr (8, u))]) (va_A [(h0, .inr (8, [.int 0, .int 0, .int 2, .ref h1, .ref h2, .int 0, .int 500, .int 0, .int 0, .int 0, .ref h3]))] sz)) 0 0 (va_A [(h0, .inr (8, [.int 0, .int 0, .int 2, .ref h1, .ref h2, .int 0, .int 500, .int 0, .int 0, .int 0, .ref h3]))] sz) := by
  refine Met.ofW (cc := cX6_costOf) (maxL := 2) (ret := (some .int)) (by decide) rfl ?_
  intro p e s m args below meth c s₁ B hml hv
  obtain ⟨rfl, hsz, hP, hK, hD0, hE9⟩ := hv
  have hx := B.exec
  have hb := B.bytes
  have hr := B.returns
  have hts := atoms_spec (ws := wsX6_costOf) B.pre
  have hown : s.vm.findClass RX6 = some m.cls := findClass_of_methodNamed B.named
  have hlocks := B.notSynchronized
  subst hsz
  have hD := hD0.self (sz := s.heap.size)
  generalize hAe : va_A [(h0, .inr (8, [.int 0, .int 0, .int 2, .ref h1, .ref h2, .int 0, .int 500, .int 0, .int 0, .int 0, .ref h3]))] s.heap.size = A at hD hE9 ⊢
  have hE := hE9.1
  have hDc := hE9.2
  have hA : ∀ q : Nat, s.heap.size ≤ q → A q := fun q h => by rw [← hAe]; exact Or.inr h
  have hS : va_S A s.heap s.heap [] := va_S.rf
  have hP : va_P D vwCl [(h0, .inr (8, [.int 0, .int 0, .int 2, .ref h1, .ref h2, .int 0, .int 500, .int 0, .int 0, .int 0, .ref h3]))] s.heap := hP
  have hl := lv_entry [.ref h0, .int p0] (n := 2) (Nat.le_of_ble_eq_true rfl)
  rw [lg_entry_eq]
  generalize (lg_sl [.ref h0, .int p0] ++ List.replicate (2 - (lg_sl [.ref h0, .int p0]).length) Slot.unset).toArray = ls at hl ⊢
  have hl : lv_has ls 2 [(0, .ref h0), (1, .int p0)] := hl
  refine lv_aload_n hx hb dX6_costOf_0 rfl (lv_at hl 0 rfl) ?_
  refine lv_iload_n hx hb dX6_costOf_1 rfl (lv_at hl 1 rfl) ?_
  refine lv_i2l (v := (p0).toInt64) hx hb dX6_costOf_2 rfl ?_
  refine vp_callSi (W.runS (As := [.long (p0).toInt64]) (rest := [.ref h0]) ⟨hx, hb, hml, hown, hts⟩ (k_X6_cost_0 l D κ ε ((p0).toInt64)) (va_cwS 1 hts gX6_costOf_X6_cost rfl rfl rfl (by decide +kernel) ⟨(Nat.le_of_ble_eq_true rfl), (Nat.le_of_ble_eq_true rfl)⟩) (pre0_S (wc := []) hP hK [] rfl) rfl rfl hl.1 rfl (lv_room (Nat.le_of_ble_eq_true rfl)) dX6_costOf_3 ⟨(Nat.le_of_ble_eq_true rfl), (Nat.le_of_ble_eq_true rfl)⟩) (fun r hw => ?_)
  rcases hw with ⟨c1, c2, c3, hv4⟩ | ⟨c5, c6, c7, c8, hv9⟩ | ⟨c10, c11, c12, c13, c14, hv15⟩ | ⟨c16, c17, c18, c19, c20, c21, hv22⟩ | ⟨c23, c24, c25, c26, c27, c28, c29, hv30⟩ | ⟨c31, c32, c33, c34, c35, c36, c37, c38, hv39⟩ | ⟨c40, c41, c42, c43, c44, c45, c46, c47, c48, hv49⟩ | ⟨c50, c51, c52, c53, c54, c55, c56, c57, c58, c59, hv60⟩ | ⟨c61, c62, c63, c64, c65, c66, c67, c68, c69, c70, c71, hv72⟩ | ⟨c73, c74, c75, c76, c77, c78, c79, c80, c81, c82, c83, c84, hv85⟩ | ⟨c86, c87, c88, c89, c90, c91, c92, c93, c94, c95, c96, c97, c98, hv99⟩ | ⟨c100, c101, c102, c103, c104, c105, c106, c107, c108, c109, c110, c111, c112, c113, hv114⟩ | ⟨c115, c116, c117, c118, c119, c120, c121, c122, c123, c124, c125, c126, c127, c128, c129, hv130⟩ | ⟨c131, c132, c133, c134, c135, c136, c137, c138, c139, c140, c141, c142, c143, c144, c145, c146, hv147⟩ | ⟨c148, c149, c150, c151, c152, c153, c154, c155, c156, c157, c158, c159, c160, c161, c162, c163, c164, hv165⟩ | ⟨c166, c167, c168, c169, c170, c171, c172, c173, c174, c175, c176, c177, c178, c179, c180, c181, c182, c183, hv184⟩ | ⟨c185, c186, c187, c188, c189, c190, c191, c192, c193, c194, c195, c196, c197, c198, c199, c200, c201, c202, c203, hv204⟩ | ⟨c205, c206, c207, c208, c209, c210, c211, c212, c213, c214, c215, c216, c217, c218, c219, c220, c221, c222, c223, c224, hv225⟩ | ⟨c226, c227, c228, c229, c230, c231, c232, c233, c234, c235, c236, c237, c238, c239, c240, c241, c242, c243, c244, c245, c246, hv247⟩ | ⟨c248, c249, c250, c251, c252, c253, c254, c255, c256, c257, c258, c259, c260, c261, c262, c263, c264, c265, c266, c267, c268, hv269⟩ | ⟨c270, c271, rfl⟩ | ⟨c272, rfl⟩
  · skip
    rw [hv4]
    exact absurd c2 (iv306 _ hf0)
  · skip
    rw [hv9]
    exact absurd c6 (iv306 _ hf0)
  · skip
    rw [hv15]
    exact absurd c11 (iv306 _ hf0)
  · skip
    rw [hv22]
    exact absurd c17 (iv306 _ hf0)
  · skip
    rw [hv30]
    exact absurd c24 (iv306 _ hf0)
  · skip
    rw [hv39]
    exact absurd c32 (iv306 _ hf0)
  · skip
    rw [hv49]
    exact absurd c41 (iv306 _ hf0)
  · skip
    rw [hv60]
    exact absurd c51 (iv306 _ hf0)
  · skip
    rw [hv72]
    exact absurd c62 (iv306 _ hf0)
  · skip
    rw [hv85]
    exact absurd c74 (iv306 _ hf0)
  · skip
    rw [hv99]
    exact absurd c87 (iv306 _ hf0)
  · skip
    rw [hv114]
    exact absurd c101 (iv306 _ hf0)
  · skip
    rw [hv130]
    exact absurd c116 (iv306 _ hf0)
  · skip
    rw [hv147]
    exact absurd c132 (iv306 _ hf0)
  · skip
    rw [hv165]
    exact absurd c149 (iv306 _ hf0)
  · skip
    rw [hv184]
    exact absurd c167 (iv306 _ hf0)
  · skip
    rw [hv204]
    exact absurd c186 (iv306 _ hf0)
  · skip
    rw [hv225]
    exact absurd c206 (iv306 _ hf0)
  · skip
    rw [hv247]
    exact absurd c227 (iv306 _ hf0)
  · skip
    rw [hv269]
    exact absurd c249 (iv306 _ hf0)
  · skip
    have hF := va_free (wc := [(h0, .inr (8, [.int 0, .int 0, .int 2, .ref h1, .ref h2, .int 0, .int 500, .int 0, .int 0, .int 0, .ref h3]))]) hD hS hA [0] rfl
    refine va_calli (va_runV (As := [.int 0]) (rest := []) ⟨hx, hb, hml, hown, hts⟩ (k_X6_plain_0 l D κ ε h0 h1 h2 h3 s.heap.size (0) (0) (2) (0) (500) (0) (0)) (cwV 1 hts gX6_costOf_X6_plain rfl rfl rfl (by decide +kernel) ⟨(Nat.le_of_ble_eq_true rfl), (Nat.le_of_ble_eq_true rfl)⟩) (pre2_V (q0 := 0) (ci := 8) (wc := [(h0, .inr (8, [.int 0, .int 0, .int 2, .ref h1, .ref h2, .int 0, .int 500, .int 0, .int 0, .int 0, .ref h3]))]) hP hD hK hE9 hS hA [0] (by decide) rfl rfl rfl) rfl rfl hl.1 rfl (lv_room (Nat.le_of_ble_eq_true rfl)) dX6_costOf_6 ⟨(Nat.le_of_ble_eq_true rfl), (Nat.le_of_ble_eq_true rfl)⟩) hS (fun q _ h => hF q h) hF (fun r u273 t H locs ht hvm hw hB hz1 hk1 hS => ?_)
    try dsimp only at hw hB
    obtain ⟨hP1, hD1⟩ := hB
    rw [ht] at hP1
    obtain ⟨hP, hD⟩ := post_j (ws' := [(h0, .inr (8, [.int 0, .int 0, .int 2, .ref h1, .ref h2, .int 0, .int 500, .int 0, .int 0, .int 0, .ref h3]))]) (wr := []) (w1 := [(h0, .inr (8, [.int 0, .int 0, .int 2, .ref h1, .ref h2, .int 0, .int 500, .int 0, .int 0, .int 0, .ref h3]))]) hP hD hF [0] rfl [] rfl (by decide) (by decide) hk1 hP1 hD1 [0] (by decide) rfl
    have hP : va_P D vwCl [(h0, .inr (8, [.int 0, .int 0, .int 2, .ref h1, .ref h2, .int 0, .int 500, .int 0, .int 0, .int 0, .ref h3]))] H := hP
    have hD : va_D A [(h0, .inr (8, [.int 0, .int 0, .int 2, .ref h1, .ref h2, .int 0, .int 500, .int 0, .int 0, .int 0, .ref h3]))] := hD
    rw [hw]
    have hP9 := hP.sub (ws' := [(h0, .inr (8, [.int 0, .int 0, .int 2, .ref h1, .ref h2, .int 0, .int 500, .int 0, .int 0, .int 0, .ref h3]))]) [0] rfl
    have hD9 := hD.sub (ws' := [(h0, .inr (8, [.int 0, .int 0, .int 2, .ref h1, .ref h2, .int 0, .int 500, .int 0, .int 0, .int 0, .ref h3]))]) [0] (by decide) rfl
    exact W.iret (v := 0) hx hb hr (fun t ht hW => ⟨⟨0, [.int 0, .int 0, .int 2, .ref h1, .ref h2, .int 0, .int 500, .int 0, .int 0, .int 0, .ref h3], rfl, ⟨c270, c271, rfl, rfl⟩, by rw [ht]; exact hP9, hD9⟩, hS.F ht⟩) hS.2.2 dX6_costOf_9
  · skip
    exact absurd (iv305 _ hf0) c272

theorem iv307 (x : Int32) (h0 : ¬ 0 < x) : ¬ 0 < (lg_cmp (x).toInt64 0) := by
  have e0 : (0 : Int32).toInt = 0 := by decide
  have f0 : (0 : Int64).toInt = 0 := by decide
  simp only [lg_cmp_lt0, lg_cmp_le0, lg_cmp_gt0, lg_cmp_ge0, lg_cmp_eq0] at *
  simp only [Int64.lt_iff_toInt_lt, Int64.le_iff_toInt_le, ← Int64.toInt_inj, Int32.toInt_toInt64, Int32.lt_iff_toInt_lt, Int32.le_iff_toInt_le, ← Int32.toInt_inj, e0, f0] at *
  omega

set_option maxHeartbeats 4000000 in
set_option maxRecDepth 100000 in
theorem k_X6_plain_3 (l : Launch) (D : va_G) (κ ε : Nat → Nat) (h0 h1 h2 h3 : Nat) (sz : Nat) (p0 : Int32) (p1 : Int32) (p2 : Int32) (p3 : Int32) (p4 : Int32) (p5 : Int32) (p6 : Int32) : Met l yX6_plain wsX6_plain ({ frames := 0, cells := 0, slots := 0, locals := 0 }) (va_Pc [.ref h0, .int 32768] (Pre2 D κ ε [(h0, .inr (8, [.int p0, .int p1, .int p2, .ref h1, .ref h2, .int p3, .int p4, .int p5, .int p6, .int 0, .ref h3]))] sz)) (va_Qi (fun r (u : Unit) => (r = 32768)) (fun u t => va_P D vwCl [(h0, .inr (8, [.int 0, .int p1, .int p2, .ref h1, .ref h2, .int p3, .int p4, .int p5, .int p6, .int 0, .ref h3]))] t.heap ∧ va_D (va_A [(h0, .inr (8, [.int p0, .int p1, .int p2, .ref h1, .ref h2, .int p3, .int p4, .int p5, .int p6, .int 0, .ref h3]))] sz) [(h0, .inr (8, [.int 0, .int p1, .int p2, .ref h1, .ref h2, .int p3, .int p4, .int p5, .int p6, .int 0, .ref h3]))]) (va_A [(h0, .inr (8, [.int p0, .int p1, .int p2, .ref h1, .ref h2, .int p3, .int p4, .int p5, .int p6, .int 0, .ref h3]))] sz)) 0 0 (va_A [(h0, .inr (8, [.int p0, .int p1, .int p2, .ref h1, .ref h2, .int p3, .int p4, .int p5, .int p6, .int 0, .ref h3]))] sz) := by
  refine Met.ofW (cc := cX6_plain) (maxL := 2) (ret := (some .int)) (by decide) rfl ?_
  intro p e s m args below meth c s₁ B hml hv
  obtain ⟨rfl, hsz, hP, hK, hD0, hE9⟩ := hv
  have hx := B.exec
  have hb := B.bytes
  have hr := B.returns
  have hts := atoms_spec (ws := wsX6_plain) B.pre
  have hown : s.vm.findClass RX6 = some m.cls := findClass_of_methodNamed B.named
  have hlocks := B.notSynchronized
  subst hsz
  have hD := hD0.self (sz := s.heap.size)
  generalize hAe : va_A [(h0, .inr (8, [.int p0, .int p1, .int p2, .ref h1, .ref h2, .int p3, .int p4, .int p5, .int p6, .int 0, .ref h3]))] s.heap.size = A at hD hE9 ⊢
  have hE := hE9.1
  have hDc := hE9.2
  have hA : ∀ q : Nat, s.heap.size ≤ q → A q := fun q h => by rw [← hAe]; exact Or.inr h
  have hS : va_S A s.heap s.heap [] := va_S.rf
  have hP : va_P D vwCl [(h0, .inr (8, [.int p0, .int p1, .int p2, .ref h1, .ref h2, .int p3, .int p4, .int p5, .int p6, .int 0, .ref h3]))] s.heap := hP
  have hl := lv_entry [.ref h0, .int 32768] (n := 2) (Nat.le_of_ble_eq_true rfl)
  rw [lg_entry_eq]
  generalize (lg_sl [.ref h0, .int 32768] ++ List.replicate (2 - (lg_sl [.ref h0, .int 32768]).length) Slot.unset).toArray = ls at hl ⊢
  have hl : lv_has ls 2 [(0, .ref h0), (1, .int 32768)] := hl
  refine lv_aload_n hx hb dX6_plain_0 rfl (lv_at hl 0 rfl) ?_
  refine lv_iconst (v := 0) hx hb dX6_plain_1 (by decide) ?_
  refine va_put (D := D) (ci := 8) (v := .int 0) (ty := .int) (C := RX6) (T := TX6) (N := 11) hx hb hts wi_X6_plain_RX6 tyX6 tyX6_ok nmX6 hown hK hP hD hS 0 rfl rfl 0 (by decide) (hts _ wd193_X6_plain) (fun _ h9 => h9) rfl (by decide +kernel) rfl rfl (Nat.le_of_ble_eq_true rfl) dX6_plain_2 (fun H locs hP hD hS => ?_)
  have hP : va_P D vwCl [(h0, .inr (8, [.int 0, .int p1, .int p2, .ref h1, .ref h2, .int p3, .int p4, .int p5, .int p6, .int 0, .ref h3]))] H := hP
  have hD : va_D A [(h0, .inr (8, [.int 0, .int p1, .int p2, .ref h1, .ref h2, .int p3, .int p4, .int p5, .int p6, .int 0, .ref h3]))] := hD
  refine lv_iload_n hx hb dX6_plain_5 rfl (lv_at hl 1 rfl) ?_
  have hP9 := hP
  have hD9 := hD
  exact W.iret (v := 32768) hx hb hr (fun t ht hW => ⟨⟨32768, (), rfl, rfl, by rw [ht]; exact hP9, hD9⟩, hS.F ht⟩) hS.2.2 dX6_plain_6

set_option maxHeartbeats 4000000 in
set_option maxRecDepth 100000 in
theorem k_X6_costOf_21 (l : Launch) (D : va_G) (κ ε : Nat → Nat) (h0 h1 h2 h3 : Nat) (sz : Nat) (p0 : Int32) (hf0 : ¬ 0 < p0) : Met l yX6_costOf wsX6_costOf ({ frames := 1, cells := 0, slots := 0, locals := 26 }) (va_Pc [.ref h0, .int p0] (Pre2 D κ ε [(h0, .inr (8, [.int 0, .int 0, .int 2, .ref h1, .ref h2, .int 0, .int 500, .int 0, .int 0, .int 0, .ref h3]))] sz)) (va_Qi (fun r (u : List Value) => (¬ 0 < (lg_cmp (p0).toInt64 0)) ∧ (u[0]? = some (.int 0)) ∧ (r = 32768)) (fun u t => va_P D vwCl [(h0, .inr (8, u))] t.heap ∧ va_D (va_A [(h0, .inr (8, [.int 0, .int 0, .int 2, .ref h1, .ref h2, .int 0, .int 500, .int 0, .int 0, .int 0, .ref h3]))] sz) [(h0, .inr (8, u))]) (va_A [(h0, .inr (8, [.int 0, .int 0, .int 2, .ref h1, .ref h2, .int 0, .int 500, .int 0, .int 0, .int 0, .ref h3]))] sz)) 0 0 (va_A [(h0, .inr (8, [.int 0, .int 0, .int 2, .ref h1, .ref h2, .int 0, .int 500, .int 0, .int 0, .int 0, .ref h3]))] sz) := by
  refine Met.ofW (cc := cX6_costOf) (maxL := 2) (ret := (some .int)) (by decide) rfl ?_
  intro p e s m args below meth c s₁ B hml hv
  obtain ⟨rfl, hsz, hP, hK, hD0, hE9⟩ := hv
  have hx := B.exec
  have hb := B.bytes
  have hr := B.returns
  have hts := atoms_spec (ws := wsX6_costOf) B.pre
  have hown : s.vm.findClass RX6 = some m.cls := findClass_of_methodNamed B.named
  have hlocks := B.notSynchronized
  subst hsz
  have hD := hD0.self (sz := s.heap.size)
  generalize hAe : va_A [(h0, .inr (8, [.int 0, .int 0, .int 2, .ref h1, .ref h2, .int 0, .int 500, .int 0, .int 0, .int 0, .ref h3]))] s.heap.size = A at hD hE9 ⊢
  have hE := hE9.1
  have hDc := hE9.2
  have hA : ∀ q : Nat, s.heap.size ≤ q → A q := fun q h => by rw [← hAe]; exact Or.inr h
  have hS : va_S A s.heap s.heap [] := va_S.rf
  have hP : va_P D vwCl [(h0, .inr (8, [.int 0, .int 0, .int 2, .ref h1, .ref h2, .int 0, .int 500, .int 0, .int 0, .int 0, .ref h3]))] s.heap := hP
  have hl := lv_entry [.ref h0, .int p0] (n := 2) (Nat.le_of_ble_eq_true rfl)
  rw [lg_entry_eq]
  generalize (lg_sl [.ref h0, .int p0] ++ List.replicate (2 - (lg_sl [.ref h0, .int p0]).length) Slot.unset).toArray = ls at hl ⊢
  have hl : lv_has ls 2 [(0, .ref h0), (1, .int p0)] := hl
  refine lv_aload_n hx hb dX6_costOf_0 rfl (lv_at hl 0 rfl) ?_
  refine lv_iload_n hx hb dX6_costOf_1 rfl (lv_at hl 1 rfl) ?_
  refine lv_i2l (v := (p0).toInt64) hx hb dX6_costOf_2 rfl ?_
  refine vp_callSi (W.runS (As := [.long (p0).toInt64]) (rest := [.ref h0]) ⟨hx, hb, hml, hown, hts⟩ (k_X6_cost_0 l D κ ε ((p0).toInt64)) (va_cwS 1 hts gX6_costOf_X6_cost rfl rfl rfl (by decide +kernel) ⟨(Nat.le_of_ble_eq_true rfl), (Nat.le_of_ble_eq_true rfl)⟩) (pre0_S (wc := []) hP hK [] rfl) rfl rfl hl.1 rfl (lv_room (Nat.le_of_ble_eq_true rfl)) dX6_costOf_3 ⟨(Nat.le_of_ble_eq_true rfl), (Nat.le_of_ble_eq_true rfl)⟩) (fun r hw => ?_)
  rcases hw with ⟨c1, c2, c3, hv4⟩ | ⟨c5, c6, c7, c8, hv9⟩ | ⟨c10, c11, c12, c13, c14, hv15⟩ | ⟨c16, c17, c18, c19, c20, c21, hv22⟩ | ⟨c23, c24, c25, c26, c27, c28, c29, hv30⟩ | ⟨c31, c32, c33, c34, c35, c36, c37, c38, hv39⟩ | ⟨c40, c41, c42, c43, c44, c45, c46, c47, c48, hv49⟩ | ⟨c50, c51, c52, c53, c54, c55, c56, c57, c58, c59, hv60⟩ | ⟨c61, c62, c63, c64, c65, c66, c67, c68, c69, c70, c71, hv72⟩ | ⟨c73, c74, c75, c76, c77, c78, c79, c80, c81, c82, c83, c84, hv85⟩ | ⟨c86, c87, c88, c89, c90, c91, c92, c93, c94, c95, c96, c97, c98, hv99⟩ | ⟨c100, c101, c102, c103, c104, c105, c106, c107, c108, c109, c110, c111, c112, c113, hv114⟩ | ⟨c115, c116, c117, c118, c119, c120, c121, c122, c123, c124, c125, c126, c127, c128, c129, hv130⟩ | ⟨c131, c132, c133, c134, c135, c136, c137, c138, c139, c140, c141, c142, c143, c144, c145, c146, hv147⟩ | ⟨c148, c149, c150, c151, c152, c153, c154, c155, c156, c157, c158, c159, c160, c161, c162, c163, c164, hv165⟩ | ⟨c166, c167, c168, c169, c170, c171, c172, c173, c174, c175, c176, c177, c178, c179, c180, c181, c182, c183, hv184⟩ | ⟨c185, c186, c187, c188, c189, c190, c191, c192, c193, c194, c195, c196, c197, c198, c199, c200, c201, c202, c203, hv204⟩ | ⟨c205, c206, c207, c208, c209, c210, c211, c212, c213, c214, c215, c216, c217, c218, c219, c220, c221, c222, c223, c224, hv225⟩ | ⟨c226, c227, c228, c229, c230, c231, c232, c233, c234, c235, c236, c237, c238, c239, c240, c241, c242, c243, c244, c245, c246, hv247⟩ | ⟨c248, c249, c250, c251, c252, c253, c254, c255, c256, c257, c258, c259, c260, c261, c262, c263, c264, c265, c266, c267, c268, hv269⟩ | ⟨c270, c271, rfl⟩ | ⟨c272, rfl⟩
  · skip
    rw [hv4]
    exact absurd c1 (iv307 _ hf0)
  · skip
    rw [hv9]
    exact absurd c5 (iv307 _ hf0)
  · skip
    rw [hv15]
    exact absurd c10 (iv307 _ hf0)
  · skip
    rw [hv22]
    exact absurd c16 (iv307 _ hf0)
  · skip
    rw [hv30]
    exact absurd c23 (iv307 _ hf0)
  · skip
    rw [hv39]
    exact absurd c31 (iv307 _ hf0)
  · skip
    rw [hv49]
    exact absurd c40 (iv307 _ hf0)
  · skip
    rw [hv60]
    exact absurd c50 (iv307 _ hf0)
  · skip
    rw [hv72]
    exact absurd c61 (iv307 _ hf0)
  · skip
    rw [hv85]
    exact absurd c73 (iv307 _ hf0)
  · skip
    rw [hv99]
    exact absurd c86 (iv307 _ hf0)
  · skip
    rw [hv114]
    exact absurd c100 (iv307 _ hf0)
  · skip
    rw [hv130]
    exact absurd c115 (iv307 _ hf0)
  · skip
    rw [hv147]
    exact absurd c131 (iv307 _ hf0)
  · skip
    rw [hv165]
    exact absurd c148 (iv307 _ hf0)
  · skip
    rw [hv184]
    exact absurd c166 (iv307 _ hf0)
  · skip
    rw [hv204]
    exact absurd c185 (iv307 _ hf0)
  · skip
    rw [hv225]
    exact absurd c205 (iv307 _ hf0)
  · skip
    rw [hv247]
    exact absurd c226 (iv307 _ hf0)
  · skip
    rw [hv269]
    exact absurd c248 (iv307 _ hf0)
  · skip
    exact absurd c270 (iv307 _ hf0)
  · skip
    have hF := va_free (wc := [(h0, .inr (8, [.int 0, .int 0, .int 2, .ref h1, .ref h2, .int 0, .int 500, .int 0, .int 0, .int 0, .ref h3]))]) hD hS hA [0] rfl
    refine va_calli (va_runV (As := [.int 32768]) (rest := []) ⟨hx, hb, hml, hown, hts⟩ (k_X6_plain_3 l D κ ε h0 h1 h2 h3 s.heap.size (0) (0) (2) (0) (500) (0) (0)) (cwV 1 hts gX6_costOf_X6_plain rfl rfl rfl (by decide +kernel) ⟨(Nat.le_of_ble_eq_true rfl), (Nat.le_of_ble_eq_true rfl)⟩) (pre2_V (q0 := 0) (ci := 8) (wc := [(h0, .inr (8, [.int 0, .int 0, .int 2, .ref h1, .ref h2, .int 0, .int 500, .int 0, .int 0, .int 0, .ref h3]))]) hP hD hK hE9 hS hA [0] (by decide) rfl rfl rfl) rfl rfl hl.1 rfl (lv_room (Nat.le_of_ble_eq_true rfl)) dX6_costOf_6 ⟨(Nat.le_of_ble_eq_true rfl), (Nat.le_of_ble_eq_true rfl)⟩) hS (fun q _ h => hF q h) hF (fun r u273 t H locs ht hvm hw hB hz1 hk1 hS => ?_)
    try dsimp only at hw hB
    obtain ⟨hP1, hD1⟩ := hB
    rw [ht] at hP1
    obtain ⟨hP, hD⟩ := post_j (ws' := [(h0, .inr (8, [.int 0, .int 0, .int 2, .ref h1, .ref h2, .int 0, .int 500, .int 0, .int 0, .int 0, .ref h3]))]) (wr := []) (w1 := [(h0, .inr (8, [.int 0, .int 0, .int 2, .ref h1, .ref h2, .int 0, .int 500, .int 0, .int 0, .int 0, .ref h3]))]) hP hD hF [0] rfl [] rfl (by decide) (by decide) hk1 hP1 hD1 [0] (by decide) rfl
    have hP : va_P D vwCl [(h0, .inr (8, [.int 0, .int 0, .int 2, .ref h1, .ref h2, .int 0, .int 500, .int 0, .int 0, .int 0, .ref h3]))] H := hP
    have hD : va_D A [(h0, .inr (8, [.int 0, .int 0, .int 2, .ref h1, .ref h2, .int 0, .int 500, .int 0, .int 0, .int 0, .ref h3]))] := hD
    rw [hw]
    have hP9 := hP.sub (ws' := [(h0, .inr (8, [.int 0, .int 0, .int 2, .ref h1, .ref h2, .int 0, .int 500, .int 0, .int 0, .int 0, .ref h3]))]) [0] rfl
    have hD9 := hD.sub (ws' := [(h0, .inr (8, [.int 0, .int 0, .int 2, .ref h1, .ref h2, .int 0, .int 500, .int 0, .int 0, .int 0, .ref h3]))]) [0] (by decide) rfl
    exact W.iret (v := 32768) hx hb hr (fun t ht hW => ⟨⟨32768, [.int 0, .int 0, .int 2, .ref h1, .ref h2, .int 0, .int 500, .int 0, .int 0, .int 0, .ref h3], rfl, ⟨c272, rfl, rfl⟩, by rw [ht]; exact hP9, hD9⟩, hS.F ht⟩) hS.2.2 dX6_costOf_9

set_option maxHeartbeats 4000000 in
set_option maxRecDepth 100000 in
theorem case_19 {p : Program} {e : Env} {s : State} {m : MethodId} {below : List Frame} {meth : Method} {c : Code} (l : Launch) (hst : l.stackTraces = false) {b : Nat} {xs : Nat → Int32} (C0 : lw_At p s m meth c b 4 xs) (D : va_G) (κ ε : Nat → Nat) (hK : va_K D vwCl (tys κ) s) (hE9 : En2 ε (fun q : Nat => s.heap.size ≤ q) s s.heap) (qx qm qo : Nat) (ux um : Nat → Nat) {H : Heap} {locs : List Loc} (hP : va_P D vwCl [(qx, .inr (7, [.ref (ux 0), .ref (ux 27), .ref (ux 30), .ref (ux 31), .ref (ux 35), .ref (ux 36), .int 0, .int 0, .int 0, .int 0])), (qm, .inr (8, [.int 0, .int 0, .int 2, .ref (um 0), .ref (um 1), .int 0, .int 500, .int 0, .int 0, .int 0, .ref (um 6)]))] H) (hD : va_D (fun q : Nat => s.heap.size ≤ q) [(qx, .inr (7, [.ref (ux 0), .ref (ux 27), .ref (ux 30), .ref (ux 31), .ref (ux 35), .ref (ux 36), .int 0, .int 0, .int 0, .int 0])), (qm, .inr (8, [.int 0, .int 0, .int 2, .ref (um 0), .ref (um 1), .int 0, .int 500, .int 0, .int 0, .int 0, .ref (um 6)]))]) (hS : va_S (fun q : Nat => s.heap.size ≤ q) s.heap H locs) {ls : Array Slot} (hl : lv_has ls 9 [(0, .ref b), (1, .ref qx), (2, .ref qm), (3, .ref qo), (4, .int 0)]) : W p l e room_1 s m #[Value.ref b] below meth c H locs 100 120000 (lw_Z below #[Value.ref b] s) (F0 m 1140 ls []) := by
  obtain ⟨hx, hb, hr, hml, hown0, hts0, hX, hbl, hlocks, hgv⟩ := id C0
  have hts : ∀ w ∈ wsL_law, w.before #[Value.ref b] s = true := fun w h => hts0 w (wsL_law_in w h)
  have hown : s.vm.findClass RL = some m.cls := hown0
  have hE := hE9.1
  have hDc := hE9.2
  have hA : ∀ q : Nat, s.heap.size ≤ q → (fun q : Nat => s.heap.size ≤ q) q := fun _ h => h
  have hbA : ¬ (fun q : Nat => s.heap.size ≤ q) b := Nat.not_le.mpr hbl
  refine lv_aload_n hx hb dL_law_1140 rfl (lv_at hl 1 rfl) ?_
  refine lv_aload_n hx hb dL_law_1141 rfl (lv_at hl 0 rfl) ?_
  refine lv_iload hx hb dL_law_1142 (lv_at hl 4 rfl) ?_
  refine lv_iconst (v := 1) hx hb dL_law_1144 (by decide) ?_
  refine lv_iadd hx hb dL_law_1145 ?_
  refine tpi (v := 1) (by decide) ?_
  refine va_sld hx hb hX hbl hbA hS (vpl (by decide)) dL_law_1146 ?_
  refine tpi (v := (xs 1)) rfl ?_
  have hF := va_free (wc := []) hD hS hA [] rfl
  refine va_calli (va_runV (As := [.int (xs 1)]) (rest := []) ⟨hx, hb, hml, hown, hts⟩ (k_X5_costOf_0 l D κ ε qx H.size ((xs 1))) (cwV 1 hts gL_law_X5_costOf rfl rfl rfl (by decide +kernel) ⟨(Nat.le_of_ble_eq_true rfl), (Nat.le_of_ble_eq_true rfl)⟩) (pre2_V (q0 := 0) (ci := 7) (wc := []) hP hD hK hE9 hS hA [] (by decide) rfl rfl rfl) rfl rfl hl.1 rfl (lv_room (Nat.le_of_ble_eq_true rfl)) dL_law_1147 ⟨(Nat.le_of_ble_eq_true rfl), (Nat.le_of_ble_eq_true rfl)⟩) hS (fun q _ h => hF q h) hF (fun r u1 t H locs ht hvm hw hB hz1 hk1 hS => ?_)
  try dsimp only at hw hB
  have hP1 : va_P D vwCl [] H := P_nil
  obtain ⟨hP, hD⟩ := post_j (ws' := [(qx, .inr (7, [.ref (ux 0), .ref (ux 27), .ref (ux 30), .ref (ux 31), .ref (ux 35), .ref (ux 36), .int 0, .int 0, .int 0, .int 0])), (qm, .inr (8, [.int 0, .int 0, .int 2, .ref (um 0), .ref (um 1), .int 0, .int 500, .int 0, .int 0, .int 0, .ref (um 6)]))]) (wr := [(qx, .inr (7, [.ref (ux 0), .ref (ux 27), .ref (ux 30), .ref (ux 31), .ref (ux 35), .ref (ux 36), .int 0, .int 0, .int 0, .int 0])), (qm, .inr (8, [.int 0, .int 0, .int 2, .ref (um 0), .ref (um 1), .int 0, .int 500, .int 0, .int 0, .int 0, .ref (um 6)]))]) (w1 := []) hP hD hF [] rfl [0, 1] rfl (by decide) (by decide) hk1 hP1 D_nil [0, 1] (by decide) rfl
  have hP : va_P D vwCl [(qx, .inr (7, [.ref (ux 0), .ref (ux 27), .ref (ux 30), .ref (ux 31), .ref (ux 35), .ref (ux 36), .int 0, .int 0, .int 0, .int 0])), (qm, .inr (8, [.int 0, .int 0, .int 2, .ref (um 0), .ref (um 1), .int 0, .int 500, .int 0, .int 0, .int 0, .ref (um 6)]))] H := hP
  have hD : va_D (fun q : Nat => s.heap.size ≤ q) [(qx, .inr (7, [.ref (ux 0), .ref (ux 27), .ref (ux 30), .ref (ux 31), .ref (ux 35), .ref (ux 36), .int 0, .int 0, .int 0, .int 0])), (qm, .inr (8, [.int 0, .int 0, .int 2, .ref (um 0), .ref (um 1), .int 0, .int 500, .int 0, .int 0, .int 0, .ref (um 6)]))] := hD
  rcases hw with ⟨c2, c3, c4, hv5⟩ | ⟨c6, c7, c8, c9, hv10⟩ | ⟨c11, c12, c13, c14, c15, hv16⟩ | ⟨c17, c18, c19, c20, c21, c22, hv23⟩ | ⟨c24, c25, c26, c27, c28, c29, c30, hv31⟩ | ⟨c32, c33, c34, c35, c36, c37, c38, c39, hv40⟩ | ⟨c41, c42, c43, c44, c45, c46, c47, c48, c49, hv50⟩ | ⟨c51, c52, c53, c54, c55, c56, c57, c58, c59, c60, hv61⟩ | ⟨c62, c63, c64, c65, c66, c67, c68, c69, c70, c71, c72, hv73⟩ | ⟨c74, c75, c76, c77, c78, c79, c80, c81, c82, c83, c84, c85, hv86⟩ | ⟨c87, c88, c89, c90, c91, c92, c93, c94, c95, c96, c97, c98, c99, hv100⟩ | ⟨c101, c102, c103, c104, c105, c106, c107, c108, c109, c110, c111, c112, c113, c114, hv115⟩ | ⟨c116, c117, c118, c119, c120, c121, c122, c123, c124, c125, c126, c127, c128, c129, c130, hv131⟩ | ⟨c132, c133, c134, c135, c136, c137, c138, c139, c140, c141, c142, c143, c144, c145, c146, c147, hv148⟩ | ⟨c149, c150, c151, c152, c153, c154, c155, c156, c157, c158, c159, c160, c161, c162, c163, c164, c165, hv166⟩ | ⟨c167, c168, c169, c170, c171, c172, c173, c174, c175, c176, c177, c178, c179, c180, c181, c182, c183, c184, hv185⟩ | ⟨c186, c187, c188, c189, c190, c191, c192, c193, c194, c195, c196, c197, c198, c199, c200, c201, c202, c203, c204, hv205⟩ | ⟨c206, c207, c208, c209, c210, c211, c212, c213, c214, c215, c216, c217, c218, c219, c220, c221, c222, c223, c224, c225, hv226⟩ | ⟨c227, c228, c229, c230, c231, c232, c233, c234, c235, c236, c237, c238, c239, c240, c241, c242, c243, c244, c245, c246, c247, hv248⟩ | ⟨c249, c250, c251, c252, c253, c254, c255, c256, c257, c258, c259, c260, c261, c262, c263, c264, c265, c266, c267, c268, c269, hv270⟩ | ⟨c271, c272, rfl⟩ | ⟨c273, rfl⟩
  · skip
    rw [hv5]
    refine lv_aload_n hx hb dL_law_1150 rfl (lv_at hl 2 rfl) ?_
    refine lv_aload_n hx hb dL_law_1151 rfl (lv_at hl 0 rfl) ?_
    refine lv_iload hx hb dL_law_1152 (lv_at hl 4 rfl) ?_
    refine lv_iconst (v := 1) hx hb dL_law_1154 (by decide) ?_
    refine lv_iadd hx hb dL_law_1155 ?_
    refine tpi (v := 1) (by decide) ?_
    refine va_sld hx hb hX hbl hbA hS (vpl (by decide)) dL_law_1156 ?_
    refine tpi (v := (xs 1)) rfl ?_
    have hF := va_free (wc := [(qm, .inr (8, [.int 0, .int 0, .int 2, .ref (um 0), .ref (um 1), .int 0, .int 500, .int 0, .int 0, .int 0, .ref (um 6)]))]) hD hS hA [1] rfl
    refine va_calli (va_runV (As := [.int (xs 1)]) (rest := [.int ((1024 * (1000000 - (xs 1))) / 500000)]) ⟨hx, hb, hml, hown, hts⟩ (k_X6_costOf_0 l D κ ε qm (um 0) (um 1) (um 6) H.size ((xs 1)) c3 c4) (cwV 1 hts gL_law_X6_costOf rfl rfl rfl (by decide +kernel) ⟨(Nat.le_of_ble_eq_true rfl), (Nat.le_of_ble_eq_true rfl)⟩) (pre2_V (q0 := 1) (ci := 8) (wc := [(qm, .inr (8, [.int 0, .int 0, .int 2, .ref (um 0), .ref (um 1), .int 0, .int 500, .int 0, .int 0, .int 0, .ref (um 6)]))]) hP hD hK hE9 hS hA [1] (by decide) rfl rfl rfl) rfl rfl hl.1 rfl (lv_room (Nat.le_of_ble_eq_true rfl)) dL_law_1157 ⟨(Nat.le_of_ble_eq_true rfl), (Nat.le_of_ble_eq_true rfl)⟩) hS (fun q _ h => hF q h) hF (fun r u274 t H locs ht hvm hw hB hz1 hk1 hS => ?_)
    try dsimp only at hw hB
    obtain ⟨hP1, hD1⟩ := hB
    rw [ht] at hP1
    obtain ⟨hP, hD⟩ := post_j (ws' := [(qx, .inr (7, [.ref (ux 0), .ref (ux 27), .ref (ux 30), .ref (ux 31), .ref (ux 35), .ref (ux 36), .int 0, .int 0, .int 0, .int 0])), (qm, .inr (8, u274))]) (wr := [(qx, .inr (7, [.ref (ux 0), .ref (ux 27), .ref (ux 30), .ref (ux 31), .ref (ux 35), .ref (ux 36), .int 0, .int 0, .int 0, .int 0]))]) (w1 := [(qm, .inr (8, u274))]) hP hD hF [1] rfl [0] rfl (by decide) (by decide) hk1 hP1 hD1 [0, 1] (by decide) rfl
    have hP : va_P D vwCl [(qx, .inr (7, [.ref (ux 0), .ref (ux 27), .ref (ux 30), .ref (ux 31), .ref (ux 35), .ref (ux 36), .int 0, .int 0, .int 0, .int 0])), (qm, .inr (8, u274))] H := hP
    have hD : va_D (fun q : Nat => s.heap.size ≤ q) [(qx, .inr (7, [.ref (ux 0), .ref (ux 27), .ref (ux 30), .ref (ux 31), .ref (ux 35), .ref (ux 36), .int 0, .int 0, .int 0, .int 0])), (qm, .inr (8, u274))] := hD
    obtain ⟨c275, c276, c277, hu278, hv279⟩ := hw
    rw [hv279]
    refine lv_icmp_eq (tgt := 1677) hx hb dL_law_1160 (by decide) (fun _ => ?_) (fun h => absurd (cost_eq0 0 1000000 500000 (iv19 _ c277) (iv20 _ c276) (by decide) (by decide) (by decide)) h)
    exact law_end C0 (Nat.le_of_ble_eq_true rfl) (Nat.le_of_ble_eq_true rfl) hS (lv_sub hl [0, 4] rfl)
  · skip
    rw [hv10]
    refine lv_aload_n hx hb dL_law_1150 rfl (lv_at hl 2 rfl) ?_
    refine lv_aload_n hx hb dL_law_1151 rfl (lv_at hl 0 rfl) ?_
    refine lv_iload hx hb dL_law_1152 (lv_at hl 4 rfl) ?_
    refine lv_iconst (v := 1) hx hb dL_law_1154 (by decide) ?_
    refine lv_iadd hx hb dL_law_1155 ?_
    refine tpi (v := 1) (by decide) ?_
    refine va_sld hx hb hX hbl hbA hS (vpl (by decide)) dL_law_1156 ?_
    refine tpi (v := (xs 1)) rfl ?_
    have hF := va_free (wc := [(qm, .inr (8, [.int 0, .int 0, .int 2, .ref (um 0), .ref (um 1), .int 0, .int 500, .int 0, .int 0, .int 0, .ref (um 6)]))]) hD hS hA [1] rfl
    refine va_calli (va_runV (As := [.int (xs 1)]) (rest := [.int (1024 + ((1024 * (500000 - (xs 1))) / 250000))]) ⟨hx, hb, hml, hown, hts⟩ (k_X6_costOf_1 l D κ ε qm (um 0) (um 1) (um 6) H.size ((xs 1)) c8 c9) (cwV 1 hts gL_law_X6_costOf rfl rfl rfl (by decide +kernel) ⟨(Nat.le_of_ble_eq_true rfl), (Nat.le_of_ble_eq_true rfl)⟩) (pre2_V (q0 := 1) (ci := 8) (wc := [(qm, .inr (8, [.int 0, .int 0, .int 2, .ref (um 0), .ref (um 1), .int 0, .int 500, .int 0, .int 0, .int 0, .ref (um 6)]))]) hP hD hK hE9 hS hA [1] (by decide) rfl rfl rfl) rfl rfl hl.1 rfl (lv_room (Nat.le_of_ble_eq_true rfl)) dL_law_1157 ⟨(Nat.le_of_ble_eq_true rfl), (Nat.le_of_ble_eq_true rfl)⟩) hS (fun q _ h => hF q h) hF (fun r u280 t H locs ht hvm hw hB hz1 hk1 hS => ?_)
    try dsimp only at hw hB
    obtain ⟨hP1, hD1⟩ := hB
    rw [ht] at hP1
    obtain ⟨hP, hD⟩ := post_j (ws' := [(qx, .inr (7, [.ref (ux 0), .ref (ux 27), .ref (ux 30), .ref (ux 31), .ref (ux 35), .ref (ux 36), .int 0, .int 0, .int 0, .int 0])), (qm, .inr (8, u280))]) (wr := [(qx, .inr (7, [.ref (ux 0), .ref (ux 27), .ref (ux 30), .ref (ux 31), .ref (ux 35), .ref (ux 36), .int 0, .int 0, .int 0, .int 0]))]) (w1 := [(qm, .inr (8, u280))]) hP hD hF [1] rfl [0] rfl (by decide) (by decide) hk1 hP1 hD1 [0, 1] (by decide) rfl
    have hP : va_P D vwCl [(qx, .inr (7, [.ref (ux 0), .ref (ux 27), .ref (ux 30), .ref (ux 31), .ref (ux 35), .ref (ux 36), .int 0, .int 0, .int 0, .int 0])), (qm, .inr (8, u280))] H := hP
    have hD : va_D (fun q : Nat => s.heap.size ≤ q) [(qx, .inr (7, [.ref (ux 0), .ref (ux 27), .ref (ux 30), .ref (ux 31), .ref (ux 35), .ref (ux 36), .int 0, .int 0, .int 0, .int 0])), (qm, .inr (8, u280))] := hD
    obtain ⟨c281, c282, c283, c284, hu285, hv286⟩ := hw
    rw [hv286]
    refine lv_icmp_eq (tgt := 1677) hx hb dL_law_1160 (by decide) (fun _ => ?_) (fun h => absurd (cost_eq 1024 500000 250000 (iv25 _ c284) (iv26 _ c283) (by decide) (by decide) (by decide)) h)
    exact law_end C0 (Nat.le_of_ble_eq_true rfl) (Nat.le_of_ble_eq_true rfl) hS (lv_sub hl [0, 4] rfl)
  · skip
    rw [hv16]
    refine lv_aload_n hx hb dL_law_1150 rfl (lv_at hl 2 rfl) ?_
    refine lv_aload_n hx hb dL_law_1151 rfl (lv_at hl 0 rfl) ?_
    refine lv_iload hx hb dL_law_1152 (lv_at hl 4 rfl) ?_
    refine lv_iconst (v := 1) hx hb dL_law_1154 (by decide) ?_
    refine lv_iadd hx hb dL_law_1155 ?_
    refine tpi (v := 1) (by decide) ?_
    refine va_sld hx hb hX hbl hbA hS (vpl (by decide)) dL_law_1156 ?_
    refine tpi (v := (xs 1)) rfl ?_
    have hF := va_free (wc := [(qm, .inr (8, [.int 0, .int 0, .int 2, .ref (um 0), .ref (um 1), .int 0, .int 500, .int 0, .int 0, .int 0, .ref (um 6)]))]) hD hS hA [1] rfl
    refine va_calli (va_runV (As := [.int (xs 1)]) (rest := [.int (2048 + ((1024 * (250000 - (xs 1))) / 125000))]) ⟨hx, hb, hml, hown, hts⟩ (k_X6_costOf_2 l D κ ε qm (um 0) (um 1) (um 6) H.size ((xs 1)) c14 c15) (cwV 1 hts gL_law_X6_costOf rfl rfl rfl (by decide +kernel) ⟨(Nat.le_of_ble_eq_true rfl), (Nat.le_of_ble_eq_true rfl)⟩) (pre2_V (q0 := 1) (ci := 8) (wc := [(qm, .inr (8, [.int 0, .int 0, .int 2, .ref (um 0), .ref (um 1), .int 0, .int 500, .int 0, .int 0, .int 0, .ref (um 6)]))]) hP hD hK hE9 hS hA [1] (by decide) rfl rfl rfl) rfl rfl hl.1 rfl (lv_room (Nat.le_of_ble_eq_true rfl)) dL_law_1157 ⟨(Nat.le_of_ble_eq_true rfl), (Nat.le_of_ble_eq_true rfl)⟩) hS (fun q _ h => hF q h) hF (fun r u287 t H locs ht hvm hw hB hz1 hk1 hS => ?_)
    try dsimp only at hw hB
    obtain ⟨hP1, hD1⟩ := hB
    rw [ht] at hP1
    obtain ⟨hP, hD⟩ := post_j (ws' := [(qx, .inr (7, [.ref (ux 0), .ref (ux 27), .ref (ux 30), .ref (ux 31), .ref (ux 35), .ref (ux 36), .int 0, .int 0, .int 0, .int 0])), (qm, .inr (8, u287))]) (wr := [(qx, .inr (7, [.ref (ux 0), .ref (ux 27), .ref (ux 30), .ref (ux 31), .ref (ux 35), .ref (ux 36), .int 0, .int 0, .int 0, .int 0]))]) (w1 := [(qm, .inr (8, u287))]) hP hD hF [1] rfl [0] rfl (by decide) (by decide) hk1 hP1 hD1 [0, 1] (by decide) rfl
    have hP : va_P D vwCl [(qx, .inr (7, [.ref (ux 0), .ref (ux 27), .ref (ux 30), .ref (ux 31), .ref (ux 35), .ref (ux 36), .int 0, .int 0, .int 0, .int 0])), (qm, .inr (8, u287))] H := hP
    have hD : va_D (fun q : Nat => s.heap.size ≤ q) [(qx, .inr (7, [.ref (ux 0), .ref (ux 27), .ref (ux 30), .ref (ux 31), .ref (ux 35), .ref (ux 36), .int 0, .int 0, .int 0, .int 0])), (qm, .inr (8, u287))] := hD
    obtain ⟨c288, c289, c290, c291, c292, hu293, hv294⟩ := hw
    rw [hv294]
    refine lv_icmp_eq (tgt := 1677) hx hb dL_law_1160 (by decide) (fun _ => ?_) (fun h => absurd (cost_eq 2048 250000 125000 (iv32 _ c292) (iv33 _ c291) (by decide) (by decide) (by decide)) h)
    exact law_end C0 (Nat.le_of_ble_eq_true rfl) (Nat.le_of_ble_eq_true rfl) hS (lv_sub hl [0, 4] rfl)
  · skip
    rw [hv23]
    refine lv_aload_n hx hb dL_law_1150 rfl (lv_at hl 2 rfl) ?_
    refine lv_aload_n hx hb dL_law_1151 rfl (lv_at hl 0 rfl) ?_
    refine lv_iload hx hb dL_law_1152 (lv_at hl 4 rfl) ?_
    refine lv_iconst (v := 1) hx hb dL_law_1154 (by decide) ?_
    refine lv_iadd hx hb dL_law_1155 ?_
    refine tpi (v := 1) (by decide) ?_
    refine va_sld hx hb hX hbl hbA hS (vpl (by decide)) dL_law_1156 ?_
    refine tpi (v := (xs 1)) rfl ?_
    have hF := va_free (wc := [(qm, .inr (8, [.int 0, .int 0, .int 2, .ref (um 0), .ref (um 1), .int 0, .int 500, .int 0, .int 0, .int 0, .ref (um 6)]))]) hD hS hA [1] rfl
    refine va_calli (va_runV (As := [.int (xs 1)]) (rest := [.int (3072 + ((1024 * (125000 - (xs 1))) / 62500))]) ⟨hx, hb, hml, hown, hts⟩ (k_X6_costOf_3 l D κ ε qm (um 0) (um 1) (um 6) H.size ((xs 1)) c21 c22) (cwV 1 hts gL_law_X6_costOf rfl rfl rfl (by decide +kernel) ⟨(Nat.le_of_ble_eq_true rfl), (Nat.le_of_ble_eq_true rfl)⟩) (pre2_V (q0 := 1) (ci := 8) (wc := [(qm, .inr (8, [.int 0, .int 0, .int 2, .ref (um 0), .ref (um 1), .int 0, .int 500, .int 0, .int 0, .int 0, .ref (um 6)]))]) hP hD hK hE9 hS hA [1] (by decide) rfl rfl rfl) rfl rfl hl.1 rfl (lv_room (Nat.le_of_ble_eq_true rfl)) dL_law_1157 ⟨(Nat.le_of_ble_eq_true rfl), (Nat.le_of_ble_eq_true rfl)⟩) hS (fun q _ h => hF q h) hF (fun r u295 t H locs ht hvm hw hB hz1 hk1 hS => ?_)
    try dsimp only at hw hB
    obtain ⟨hP1, hD1⟩ := hB
    rw [ht] at hP1
    obtain ⟨hP, hD⟩ := post_j (ws' := [(qx, .inr (7, [.ref (ux 0), .ref (ux 27), .ref (ux 30), .ref (ux 31), .ref (ux 35), .ref (ux 36), .int 0, .int 0, .int 0, .int 0])), (qm, .inr (8, u295))]) (wr := [(qx, .inr (7, [.ref (ux 0), .ref (ux 27), .ref (ux 30), .ref (ux 31), .ref (ux 35), .ref (ux 36), .int 0, .int 0, .int 0, .int 0]))]) (w1 := [(qm, .inr (8, u295))]) hP hD hF [1] rfl [0] rfl (by decide) (by decide) hk1 hP1 hD1 [0, 1] (by decide) rfl
    have hP : va_P D vwCl [(qx, .inr (7, [.ref (ux 0), .ref (ux 27), .ref (ux 30), .ref (ux 31), .ref (ux 35), .ref (ux 36), .int 0, .int 0, .int 0, .int 0])), (qm, .inr (8, u295))] H := hP
    have hD : va_D (fun q : Nat => s.heap.size ≤ q) [(qx, .inr (7, [.ref (ux 0), .ref (ux 27), .ref (ux 30), .ref (ux 31), .ref (ux 35), .ref (ux 36), .int 0, .int 0, .int 0, .int 0])), (qm, .inr (8, u295))] := hD
    obtain ⟨c296, c297, c298, c299, c300, c301, hu302, hv303⟩ := hw
    rw [hv303]
    refine lv_icmp_eq (tgt := 1677) hx hb dL_law_1160 (by decide) (fun _ => ?_) (fun h => absurd (cost_eq 3072 125000 62500 (iv40 _ c301) (iv41 _ c300) (by decide) (by decide) (by decide)) h)
    exact law_end C0 (Nat.le_of_ble_eq_true rfl) (Nat.le_of_ble_eq_true rfl) hS (lv_sub hl [0, 4] rfl)
  · skip
    rw [hv31]
    refine lv_aload_n hx hb dL_law_1150 rfl (lv_at hl 2 rfl) ?_
    refine lv_aload_n hx hb dL_law_1151 rfl (lv_at hl 0 rfl) ?_
    refine lv_iload hx hb dL_law_1152 (lv_at hl 4 rfl) ?_
    refine lv_iconst (v := 1) hx hb dL_law_1154 (by decide) ?_
    refine lv_iadd hx hb dL_law_1155 ?_
    refine tpi (v := 1) (by decide) ?_
    refine va_sld hx hb hX hbl hbA hS (vpl (by decide)) dL_law_1156 ?_
    refine tpi (v := (xs 1)) rfl ?_
    have hF := va_free (wc := [(qm, .inr (8, [.int 0, .int 0, .int 2, .ref (um 0), .ref (um 1), .int 0, .int 500, .int 0, .int 0, .int 0, .ref (um 6)]))]) hD hS hA [1] rfl
    refine va_calli (va_runV (As := [.int (xs 1)]) (rest := [.int (4096 + ((1024 * (62500 - (xs 1))) / 31250))]) ⟨hx, hb, hml, hown, hts⟩ (k_X6_costOf_4 l D κ ε qm (um 0) (um 1) (um 6) H.size ((xs 1)) c29 c30) (cwV 1 hts gL_law_X6_costOf rfl rfl rfl (by decide +kernel) ⟨(Nat.le_of_ble_eq_true rfl), (Nat.le_of_ble_eq_true rfl)⟩) (pre2_V (q0 := 1) (ci := 8) (wc := [(qm, .inr (8, [.int 0, .int 0, .int 2, .ref (um 0), .ref (um 1), .int 0, .int 500, .int 0, .int 0, .int 0, .ref (um 6)]))]) hP hD hK hE9 hS hA [1] (by decide) rfl rfl rfl) rfl rfl hl.1 rfl (lv_room (Nat.le_of_ble_eq_true rfl)) dL_law_1157 ⟨(Nat.le_of_ble_eq_true rfl), (Nat.le_of_ble_eq_true rfl)⟩) hS (fun q _ h => hF q h) hF (fun r u304 t H locs ht hvm hw hB hz1 hk1 hS => ?_)
    try dsimp only at hw hB
    obtain ⟨hP1, hD1⟩ := hB
    rw [ht] at hP1
    obtain ⟨hP, hD⟩ := post_j (ws' := [(qx, .inr (7, [.ref (ux 0), .ref (ux 27), .ref (ux 30), .ref (ux 31), .ref (ux 35), .ref (ux 36), .int 0, .int 0, .int 0, .int 0])), (qm, .inr (8, u304))]) (wr := [(qx, .inr (7, [.ref (ux 0), .ref (ux 27), .ref (ux 30), .ref (ux 31), .ref (ux 35), .ref (ux 36), .int 0, .int 0, .int 0, .int 0]))]) (w1 := [(qm, .inr (8, u304))]) hP hD hF [1] rfl [0] rfl (by decide) (by decide) hk1 hP1 hD1 [0, 1] (by decide) rfl
    have hP : va_P D vwCl [(qx, .inr (7, [.ref (ux 0), .ref (ux 27), .ref (ux 30), .ref (ux 31), .ref (ux 35), .ref (ux 36), .int 0, .int 0, .int 0, .int 0])), (qm, .inr (8, u304))] H := hP
    have hD : va_D (fun q : Nat => s.heap.size ≤ q) [(qx, .inr (7, [.ref (ux 0), .ref (ux 27), .ref (ux 30), .ref (ux 31), .ref (ux 35), .ref (ux 36), .int 0, .int 0, .int 0, .int 0])), (qm, .inr (8, u304))] := hD
    obtain ⟨c305, c306, c307, c308, c309, c310, c311, hu312, hv313⟩ := hw
    rw [hv313]
    refine lv_icmp_eq (tgt := 1677) hx hb dL_law_1160 (by decide) (fun _ => ?_) (fun h => absurd (cost_eq 4096 62500 31250 (iv49 _ c311) (iv50 _ c310) (by decide) (by decide) (by decide)) h)
    exact law_end C0 (Nat.le_of_ble_eq_true rfl) (Nat.le_of_ble_eq_true rfl) hS (lv_sub hl [0, 4] rfl)
  · skip
    rw [hv40]
    refine lv_aload_n hx hb dL_law_1150 rfl (lv_at hl 2 rfl) ?_
    refine lv_aload_n hx hb dL_law_1151 rfl (lv_at hl 0 rfl) ?_
    refine lv_iload hx hb dL_law_1152 (lv_at hl 4 rfl) ?_
    refine lv_iconst (v := 1) hx hb dL_law_1154 (by decide) ?_
    refine lv_iadd hx hb dL_law_1155 ?_
    refine tpi (v := 1) (by decide) ?_
    refine va_sld hx hb hX hbl hbA hS (vpl (by decide)) dL_law_1156 ?_
    refine tpi (v := (xs 1)) rfl ?_
    have hF := va_free (wc := [(qm, .inr (8, [.int 0, .int 0, .int 2, .ref (um 0), .ref (um 1), .int 0, .int 500, .int 0, .int 0, .int 0, .ref (um 6)]))]) hD hS hA [1] rfl
    refine va_calli (va_runV (As := [.int (xs 1)]) (rest := [.int (5120 + ((1024 * (31250 - (xs 1))) / 15625))]) ⟨hx, hb, hml, hown, hts⟩ (k_X6_costOf_5 l D κ ε qm (um 0) (um 1) (um 6) H.size ((xs 1)) c38 c39) (cwV 1 hts gL_law_X6_costOf rfl rfl rfl (by decide +kernel) ⟨(Nat.le_of_ble_eq_true rfl), (Nat.le_of_ble_eq_true rfl)⟩) (pre2_V (q0 := 1) (ci := 8) (wc := [(qm, .inr (8, [.int 0, .int 0, .int 2, .ref (um 0), .ref (um 1), .int 0, .int 500, .int 0, .int 0, .int 0, .ref (um 6)]))]) hP hD hK hE9 hS hA [1] (by decide) rfl rfl rfl) rfl rfl hl.1 rfl (lv_room (Nat.le_of_ble_eq_true rfl)) dL_law_1157 ⟨(Nat.le_of_ble_eq_true rfl), (Nat.le_of_ble_eq_true rfl)⟩) hS (fun q _ h => hF q h) hF (fun r u314 t H locs ht hvm hw hB hz1 hk1 hS => ?_)
    try dsimp only at hw hB
    obtain ⟨hP1, hD1⟩ := hB
    rw [ht] at hP1
    obtain ⟨hP, hD⟩ := post_j (ws' := [(qx, .inr (7, [.ref (ux 0), .ref (ux 27), .ref (ux 30), .ref (ux 31), .ref (ux 35), .ref (ux 36), .int 0, .int 0, .int 0, .int 0])), (qm, .inr (8, u314))]) (wr := [(qx, .inr (7, [.ref (ux 0), .ref (ux 27), .ref (ux 30), .ref (ux 31), .ref (ux 35), .ref (ux 36), .int 0, .int 0, .int 0, .int 0]))]) (w1 := [(qm, .inr (8, u314))]) hP hD hF [1] rfl [0] rfl (by decide) (by decide) hk1 hP1 hD1 [0, 1] (by decide) rfl
    have hP : va_P D vwCl [(qx, .inr (7, [.ref (ux 0), .ref (ux 27), .ref (ux 30), .ref (ux 31), .ref (ux 35), .ref (ux 36), .int 0, .int 0, .int 0, .int 0])), (qm, .inr (8, u314))] H := hP
    have hD : va_D (fun q : Nat => s.heap.size ≤ q) [(qx, .inr (7, [.ref (ux 0), .ref (ux 27), .ref (ux 30), .ref (ux 31), .ref (ux 35), .ref (ux 36), .int 0, .int 0, .int 0, .int 0])), (qm, .inr (8, u314))] := hD
    obtain ⟨c315, c316, c317, c318, c319, c320, c321, c322, hu323, hv324⟩ := hw
    rw [hv324]
    refine lv_icmp_eq (tgt := 1677) hx hb dL_law_1160 (by decide) (fun _ => ?_) (fun h => absurd (cost_eq 5120 31250 15625 (iv59 _ c322) (iv60 _ c321) (by decide) (by decide) (by decide)) h)
    exact law_end C0 (Nat.le_of_ble_eq_true rfl) (Nat.le_of_ble_eq_true rfl) hS (lv_sub hl [0, 4] rfl)
  · skip
    rw [hv50]
    refine lv_aload_n hx hb dL_law_1150 rfl (lv_at hl 2 rfl) ?_
    refine lv_aload_n hx hb dL_law_1151 rfl (lv_at hl 0 rfl) ?_
    refine lv_iload hx hb dL_law_1152 (lv_at hl 4 rfl) ?_
    refine lv_iconst (v := 1) hx hb dL_law_1154 (by decide) ?_
    refine lv_iadd hx hb dL_law_1155 ?_
    refine tpi (v := 1) (by decide) ?_
    refine va_sld hx hb hX hbl hbA hS (vpl (by decide)) dL_law_1156 ?_
    refine tpi (v := (xs 1)) rfl ?_
    have hF := va_free (wc := [(qm, .inr (8, [.int 0, .int 0, .int 2, .ref (um 0), .ref (um 1), .int 0, .int 500, .int 0, .int 0, .int 0, .ref (um 6)]))]) hD hS hA [1] rfl
    refine va_calli (va_runV (As := [.int (xs 1)]) (rest := [.int (6144 + ((1024 * (15625 - (xs 1))) / 7813))]) ⟨hx, hb, hml, hown, hts⟩ (k_X6_costOf_6 l D κ ε qm (um 0) (um 1) (um 6) H.size ((xs 1)) c48 c49) (cwV 1 hts gL_law_X6_costOf rfl rfl rfl (by decide +kernel) ⟨(Nat.le_of_ble_eq_true rfl), (Nat.le_of_ble_eq_true rfl)⟩) (pre2_V (q0 := 1) (ci := 8) (wc := [(qm, .inr (8, [.int 0, .int 0, .int 2, .ref (um 0), .ref (um 1), .int 0, .int 500, .int 0, .int 0, .int 0, .ref (um 6)]))]) hP hD hK hE9 hS hA [1] (by decide) rfl rfl rfl) rfl rfl hl.1 rfl (lv_room (Nat.le_of_ble_eq_true rfl)) dL_law_1157 ⟨(Nat.le_of_ble_eq_true rfl), (Nat.le_of_ble_eq_true rfl)⟩) hS (fun q _ h => hF q h) hF (fun r u325 t H locs ht hvm hw hB hz1 hk1 hS => ?_)
    try dsimp only at hw hB
    obtain ⟨hP1, hD1⟩ := hB
    rw [ht] at hP1
    obtain ⟨hP, hD⟩ := post_j (ws' := [(qx, .inr (7, [.ref (ux 0), .ref (ux 27), .ref (ux 30), .ref (ux 31), .ref (ux 35), .ref (ux 36), .int 0, .int 0, .int 0, .int 0])), (qm, .inr (8, u325))]) (wr := [(qx, .inr (7, [.ref (ux 0), .ref (ux 27), .ref (ux 30), .ref (ux 31), .ref (ux 35), .ref (ux 36), .int 0, .int 0, .int 0, .int 0]))]) (w1 := [(qm, .inr (8, u325))]) hP hD hF [1] rfl [0] rfl (by decide) (by decide) hk1 hP1 hD1 [0, 1] (by decide) rfl
    have hP : va_P D vwCl [(qx, .inr (7, [.ref (ux 0), .ref (ux 27), .ref (ux 30), .ref (ux 31), .ref (ux 35), .ref (ux 36), .int 0, .int 0, .int 0, .int 0])), (qm, .inr (8, u325))] H := hP
    have hD : va_D (fun q : Nat => s.heap.size ≤ q) [(qx, .inr (7, [.ref (ux 0), .ref (ux 27), .ref (ux 30), .ref (ux 31), .ref (ux 35), .ref (ux 36), .int 0, .int 0, .int 0, .int 0])), (qm, .inr (8, u325))] := hD
    obtain ⟨c326, c327, c328, c329, c330, c331, c332, c333, c334, hu335, hv336⟩ := hw
    rw [hv336]
    refine lv_icmp_eq (tgt := 1677) hx hb dL_law_1160 (by decide) (fun _ => ?_) (fun h => absurd (cost_eq 6144 15625 7813 (iv70 _ c334) (iv71 _ c333) (by decide) (by decide) (by decide)) h)
    exact law_end C0 (Nat.le_of_ble_eq_true rfl) (Nat.le_of_ble_eq_true rfl) hS (lv_sub hl [0, 4] rfl)
  · skip
    rw [hv61]
    refine lv_aload_n hx hb dL_law_1150 rfl (lv_at hl 2 rfl) ?_
    refine lv_aload_n hx hb dL_law_1151 rfl (lv_at hl 0 rfl) ?_
    refine lv_iload hx hb dL_law_1152 (lv_at hl 4 rfl) ?_
    refine lv_iconst (v := 1) hx hb dL_law_1154 (by decide) ?_
    refine lv_iadd hx hb dL_law_1155 ?_
    refine tpi (v := 1) (by decide) ?_
    refine va_sld hx hb hX hbl hbA hS (vpl (by decide)) dL_law_1156 ?_
    refine tpi (v := (xs 1)) rfl ?_
    have hF := va_free (wc := [(qm, .inr (8, [.int 0, .int 0, .int 2, .ref (um 0), .ref (um 1), .int 0, .int 500, .int 0, .int 0, .int 0, .ref (um 6)]))]) hD hS hA [1] rfl
    refine va_calli (va_runV (As := [.int (xs 1)]) (rest := [.int (7168 + ((1024 * (7812 - (xs 1))) / 3906))]) ⟨hx, hb, hml, hown, hts⟩ (k_X6_costOf_7 l D κ ε qm (um 0) (um 1) (um 6) H.size ((xs 1)) c59 c60) (cwV 1 hts gL_law_X6_costOf rfl rfl rfl (by decide +kernel) ⟨(Nat.le_of_ble_eq_true rfl), (Nat.le_of_ble_eq_true rfl)⟩) (pre2_V (q0 := 1) (ci := 8) (wc := [(qm, .inr (8, [.int 0, .int 0, .int 2, .ref (um 0), .ref (um 1), .int 0, .int 500, .int 0, .int 0, .int 0, .ref (um 6)]))]) hP hD hK hE9 hS hA [1] (by decide) rfl rfl rfl) rfl rfl hl.1 rfl (lv_room (Nat.le_of_ble_eq_true rfl)) dL_law_1157 ⟨(Nat.le_of_ble_eq_true rfl), (Nat.le_of_ble_eq_true rfl)⟩) hS (fun q _ h => hF q h) hF (fun r u337 t H locs ht hvm hw hB hz1 hk1 hS => ?_)
    try dsimp only at hw hB
    obtain ⟨hP1, hD1⟩ := hB
    rw [ht] at hP1
    obtain ⟨hP, hD⟩ := post_j (ws' := [(qx, .inr (7, [.ref (ux 0), .ref (ux 27), .ref (ux 30), .ref (ux 31), .ref (ux 35), .ref (ux 36), .int 0, .int 0, .int 0, .int 0])), (qm, .inr (8, u337))]) (wr := [(qx, .inr (7, [.ref (ux 0), .ref (ux 27), .ref (ux 30), .ref (ux 31), .ref (ux 35), .ref (ux 36), .int 0, .int 0, .int 0, .int 0]))]) (w1 := [(qm, .inr (8, u337))]) hP hD hF [1] rfl [0] rfl (by decide) (by decide) hk1 hP1 hD1 [0, 1] (by decide) rfl
    have hP : va_P D vwCl [(qx, .inr (7, [.ref (ux 0), .ref (ux 27), .ref (ux 30), .ref (ux 31), .ref (ux 35), .ref (ux 36), .int 0, .int 0, .int 0, .int 0])), (qm, .inr (8, u337))] H := hP
    have hD : va_D (fun q : Nat => s.heap.size ≤ q) [(qx, .inr (7, [.ref (ux 0), .ref (ux 27), .ref (ux 30), .ref (ux 31), .ref (ux 35), .ref (ux 36), .int 0, .int 0, .int 0, .int 0])), (qm, .inr (8, u337))] := hD
    obtain ⟨c338, c339, c340, c341, c342, c343, c344, c345, c346, c347, hu348, hv349⟩ := hw
    rw [hv349]
    refine lv_icmp_eq (tgt := 1677) hx hb dL_law_1160 (by decide) (fun _ => ?_) (fun h => absurd (cost_eq 7168 7812 3906 (iv82 _ c347) (iv83 _ c346) (by decide) (by decide) (by decide)) h)
    exact law_end C0 (Nat.le_of_ble_eq_true rfl) (Nat.le_of_ble_eq_true rfl) hS (lv_sub hl [0, 4] rfl)
  · skip
    rw [hv73]
    refine lv_aload_n hx hb dL_law_1150 rfl (lv_at hl 2 rfl) ?_
    refine lv_aload_n hx hb dL_law_1151 rfl (lv_at hl 0 rfl) ?_
    refine lv_iload hx hb dL_law_1152 (lv_at hl 4 rfl) ?_
    refine lv_iconst (v := 1) hx hb dL_law_1154 (by decide) ?_
    refine lv_iadd hx hb dL_law_1155 ?_
    refine tpi (v := 1) (by decide) ?_
    refine va_sld hx hb hX hbl hbA hS (vpl (by decide)) dL_law_1156 ?_
    refine tpi (v := (xs 1)) rfl ?_
    have hF := va_free (wc := [(qm, .inr (8, [.int 0, .int 0, .int 2, .ref (um 0), .ref (um 1), .int 0, .int 500, .int 0, .int 0, .int 0, .ref (um 6)]))]) hD hS hA [1] rfl
    refine va_calli (va_runV (As := [.int (xs 1)]) (rest := [.int (8192 + ((1024 * (3906 - (xs 1))) / 1953))]) ⟨hx, hb, hml, hown, hts⟩ (k_X6_costOf_8 l D κ ε qm (um 0) (um 1) (um 6) H.size ((xs 1)) c71 c72) (cwV 1 hts gL_law_X6_costOf rfl rfl rfl (by decide +kernel) ⟨(Nat.le_of_ble_eq_true rfl), (Nat.le_of_ble_eq_true rfl)⟩) (pre2_V (q0 := 1) (ci := 8) (wc := [(qm, .inr (8, [.int 0, .int 0, .int 2, .ref (um 0), .ref (um 1), .int 0, .int 500, .int 0, .int 0, .int 0, .ref (um 6)]))]) hP hD hK hE9 hS hA [1] (by decide) rfl rfl rfl) rfl rfl hl.1 rfl (lv_room (Nat.le_of_ble_eq_true rfl)) dL_law_1157 ⟨(Nat.le_of_ble_eq_true rfl), (Nat.le_of_ble_eq_true rfl)⟩) hS (fun q _ h => hF q h) hF (fun r u350 t H locs ht hvm hw hB hz1 hk1 hS => ?_)
    try dsimp only at hw hB
    obtain ⟨hP1, hD1⟩ := hB
    rw [ht] at hP1
    obtain ⟨hP, hD⟩ := post_j (ws' := [(qx, .inr (7, [.ref (ux 0), .ref (ux 27), .ref (ux 30), .ref (ux 31), .ref (ux 35), .ref (ux 36), .int 0, .int 0, .int 0, .int 0])), (qm, .inr (8, u350))]) (wr := [(qx, .inr (7, [.ref (ux 0), .ref (ux 27), .ref (ux 30), .ref (ux 31), .ref (ux 35), .ref (ux 36), .int 0, .int 0, .int 0, .int 0]))]) (w1 := [(qm, .inr (8, u350))]) hP hD hF [1] rfl [0] rfl (by decide) (by decide) hk1 hP1 hD1 [0, 1] (by decide) rfl
    have hP : va_P D vwCl [(qx, .inr (7, [.ref (ux 0), .ref (ux 27), .ref (ux 30), .ref (ux 31), .ref (ux 35), .ref (ux 36), .int 0, .int 0, .int 0, .int 0])), (qm, .inr (8, u350))] H := hP
    have hD : va_D (fun q : Nat => s.heap.size ≤ q) [(qx, .inr (7, [.ref (ux 0), .ref (ux 27), .ref (ux 30), .ref (ux 31), .ref (ux 35), .ref (ux 36), .int 0, .int 0, .int 0, .int 0])), (qm, .inr (8, u350))] := hD
    obtain ⟨c351, c352, c353, c354, c355, c356, c357, c358, c359, c360, c361, hu362, hv363⟩ := hw
    rw [hv363]
    refine lv_icmp_eq (tgt := 1677) hx hb dL_law_1160 (by decide) (fun _ => ?_) (fun h => absurd (cost_eq 8192 3906 1953 (iv95 _ c361) (iv96 _ c360) (by decide) (by decide) (by decide)) h)
    exact law_end C0 (Nat.le_of_ble_eq_true rfl) (Nat.le_of_ble_eq_true rfl) hS (lv_sub hl [0, 4] rfl)
  · skip
    rw [hv86]
    refine lv_aload_n hx hb dL_law_1150 rfl (lv_at hl 2 rfl) ?_
    refine lv_aload_n hx hb dL_law_1151 rfl (lv_at hl 0 rfl) ?_
    refine lv_iload hx hb dL_law_1152 (lv_at hl 4 rfl) ?_
    refine lv_iconst (v := 1) hx hb dL_law_1154 (by decide) ?_
    refine lv_iadd hx hb dL_law_1155 ?_
    refine tpi (v := 1) (by decide) ?_
    refine va_sld hx hb hX hbl hbA hS (vpl (by decide)) dL_law_1156 ?_
    refine tpi (v := (xs 1)) rfl ?_
    have hF := va_free (wc := [(qm, .inr (8, [.int 0, .int 0, .int 2, .ref (um 0), .ref (um 1), .int 0, .int 500, .int 0, .int 0, .int 0, .ref (um 6)]))]) hD hS hA [1] rfl
    refine va_calli (va_runV (As := [.int (xs 1)]) (rest := [.int (9216 + ((1024 * (1953 - (xs 1))) / 977))]) ⟨hx, hb, hml, hown, hts⟩ (k_X6_costOf_9 l D κ ε qm (um 0) (um 1) (um 6) H.size ((xs 1)) c84 c85) (cwV 1 hts gL_law_X6_costOf rfl rfl rfl (by decide +kernel) ⟨(Nat.le_of_ble_eq_true rfl), (Nat.le_of_ble_eq_true rfl)⟩) (pre2_V (q0 := 1) (ci := 8) (wc := [(qm, .inr (8, [.int 0, .int 0, .int 2, .ref (um 0), .ref (um 1), .int 0, .int 500, .int 0, .int 0, .int 0, .ref (um 6)]))]) hP hD hK hE9 hS hA [1] (by decide) rfl rfl rfl) rfl rfl hl.1 rfl (lv_room (Nat.le_of_ble_eq_true rfl)) dL_law_1157 ⟨(Nat.le_of_ble_eq_true rfl), (Nat.le_of_ble_eq_true rfl)⟩) hS (fun q _ h => hF q h) hF (fun r u364 t H locs ht hvm hw hB hz1 hk1 hS => ?_)
    try dsimp only at hw hB
    obtain ⟨hP1, hD1⟩ := hB
    rw [ht] at hP1
    obtain ⟨hP, hD⟩ := post_j (ws' := [(qx, .inr (7, [.ref (ux 0), .ref (ux 27), .ref (ux 30), .ref (ux 31), .ref (ux 35), .ref (ux 36), .int 0, .int 0, .int 0, .int 0])), (qm, .inr (8, u364))]) (wr := [(qx, .inr (7, [.ref (ux 0), .ref (ux 27), .ref (ux 30), .ref (ux 31), .ref (ux 35), .ref (ux 36), .int 0, .int 0, .int 0, .int 0]))]) (w1 := [(qm, .inr (8, u364))]) hP hD hF [1] rfl [0] rfl (by decide) (by decide) hk1 hP1 hD1 [0, 1] (by decide) rfl
    have hP : va_P D vwCl [(qx, .inr (7, [.ref (ux 0), .ref (ux 27), .ref (ux 30), .ref (ux 31), .ref (ux 35), .ref (ux 36), .int 0, .int 0, .int 0, .int 0])), (qm, .inr (8, u364))] H := hP
    have hD : va_D (fun q : Nat => s.heap.size ≤ q) [(qx, .inr (7, [.ref (ux 0), .ref (ux 27), .ref (ux 30), .ref (ux 31), .ref (ux 35), .ref (ux 36), .int 0, .int 0, .int 0, .int 0])), (qm, .inr (8, u364))] := hD
    obtain ⟨c365, c366, c367, c368, c369, c370, c371, c372, c373, c374, c375, c376, hu377, hv378⟩ := hw
    rw [hv378]
    refine lv_icmp_eq (tgt := 1677) hx hb dL_law_1160 (by decide) (fun _ => ?_) (fun h => absurd (cost_eq 9216 1953 977 (iv109 _ c376) (iv110 _ c375) (by decide) (by decide) (by decide)) h)
    exact law_end C0 (Nat.le_of_ble_eq_true rfl) (Nat.le_of_ble_eq_true rfl) hS (lv_sub hl [0, 4] rfl)
  · skip
    rw [hv100]
    refine lv_aload_n hx hb dL_law_1150 rfl (lv_at hl 2 rfl) ?_
    refine lv_aload_n hx hb dL_law_1151 rfl (lv_at hl 0 rfl) ?_
    refine lv_iload hx hb dL_law_1152 (lv_at hl 4 rfl) ?_
    refine lv_iconst (v := 1) hx hb dL_law_1154 (by decide) ?_
    refine lv_iadd hx hb dL_law_1155 ?_
    refine tpi (v := 1) (by decide) ?_
    refine va_sld hx hb hX hbl hbA hS (vpl (by decide)) dL_law_1156 ?_
    refine tpi (v := (xs 1)) rfl ?_
    have hF := va_free (wc := [(qm, .inr (8, [.int 0, .int 0, .int 2, .ref (um 0), .ref (um 1), .int 0, .int 500, .int 0, .int 0, .int 0, .ref (um 6)]))]) hD hS hA [1] rfl
    refine va_calli (va_runV (As := [.int (xs 1)]) (rest := [.int (10240 + ((1024 * (976 - (xs 1))) / 488))]) ⟨hx, hb, hml, hown, hts⟩ (k_X6_costOf_10 l D κ ε qm (um 0) (um 1) (um 6) H.size ((xs 1)) c98 c99) (cwV 1 hts gL_law_X6_costOf rfl rfl rfl (by decide +kernel) ⟨(Nat.le_of_ble_eq_true rfl), (Nat.le_of_ble_eq_true rfl)⟩) (pre2_V (q0 := 1) (ci := 8) (wc := [(qm, .inr (8, [.int 0, .int 0, .int 2, .ref (um 0), .ref (um 1), .int 0, .int 500, .int 0, .int 0, .int 0, .ref (um 6)]))]) hP hD hK hE9 hS hA [1] (by decide) rfl rfl rfl) rfl rfl hl.1 rfl (lv_room (Nat.le_of_ble_eq_true rfl)) dL_law_1157 ⟨(Nat.le_of_ble_eq_true rfl), (Nat.le_of_ble_eq_true rfl)⟩) hS (fun q _ h => hF q h) hF (fun r u379 t H locs ht hvm hw hB hz1 hk1 hS => ?_)
    try dsimp only at hw hB
    obtain ⟨hP1, hD1⟩ := hB
    rw [ht] at hP1
    obtain ⟨hP, hD⟩ := post_j (ws' := [(qx, .inr (7, [.ref (ux 0), .ref (ux 27), .ref (ux 30), .ref (ux 31), .ref (ux 35), .ref (ux 36), .int 0, .int 0, .int 0, .int 0])), (qm, .inr (8, u379))]) (wr := [(qx, .inr (7, [.ref (ux 0), .ref (ux 27), .ref (ux 30), .ref (ux 31), .ref (ux 35), .ref (ux 36), .int 0, .int 0, .int 0, .int 0]))]) (w1 := [(qm, .inr (8, u379))]) hP hD hF [1] rfl [0] rfl (by decide) (by decide) hk1 hP1 hD1 [0, 1] (by decide) rfl
    have hP : va_P D vwCl [(qx, .inr (7, [.ref (ux 0), .ref (ux 27), .ref (ux 30), .ref (ux 31), .ref (ux 35), .ref (ux 36), .int 0, .int 0, .int 0, .int 0])), (qm, .inr (8, u379))] H := hP
    have hD : va_D (fun q : Nat => s.heap.size ≤ q) [(qx, .inr (7, [.ref (ux 0), .ref (ux 27), .ref (ux 30), .ref (ux 31), .ref (ux 35), .ref (ux 36), .int 0, .int 0, .int 0, .int 0])), (qm, .inr (8, u379))] := hD
    obtain ⟨c380, c381, c382, c383, c384, c385, c386, c387, c388, c389, c390, c391, c392, hu393, hv394⟩ := hw
    rw [hv394]
    refine lv_icmp_eq (tgt := 1677) hx hb dL_law_1160 (by decide) (fun _ => ?_) (fun h => absurd (cost_eq 10240 976 488 (iv124 _ c392) (iv125 _ c391) (by decide) (by decide) (by decide)) h)
    exact law_end C0 (Nat.le_of_ble_eq_true rfl) (Nat.le_of_ble_eq_true rfl) hS (lv_sub hl [0, 4] rfl)
  · skip
    rw [hv115]
    refine lv_aload_n hx hb dL_law_1150 rfl (lv_at hl 2 rfl) ?_
    refine lv_aload_n hx hb dL_law_1151 rfl (lv_at hl 0 rfl) ?_
    refine lv_iload hx hb dL_law_1152 (lv_at hl 4 rfl) ?_
    refine lv_iconst (v := 1) hx hb dL_law_1154 (by decide) ?_
    refine lv_iadd hx hb dL_law_1155 ?_
    refine tpi (v := 1) (by decide) ?_
    refine va_sld hx hb hX hbl hbA hS (vpl (by decide)) dL_law_1156 ?_
    refine tpi (v := (xs 1)) rfl ?_
    have hF := va_free (wc := [(qm, .inr (8, [.int 0, .int 0, .int 2, .ref (um 0), .ref (um 1), .int 0, .int 500, .int 0, .int 0, .int 0, .ref (um 6)]))]) hD hS hA [1] rfl
    refine va_calli (va_runV (As := [.int (xs 1)]) (rest := [.int (11264 + ((1024 * (488 - (xs 1))) / 244))]) ⟨hx, hb, hml, hown, hts⟩ (k_X6_costOf_11 l D κ ε qm (um 0) (um 1) (um 6) H.size ((xs 1)) c113 c114) (cwV 1 hts gL_law_X6_costOf rfl rfl rfl (by decide +kernel) ⟨(Nat.le_of_ble_eq_true rfl), (Nat.le_of_ble_eq_true rfl)⟩) (pre2_V (q0 := 1) (ci := 8) (wc := [(qm, .inr (8, [.int 0, .int 0, .int 2, .ref (um 0), .ref (um 1), .int 0, .int 500, .int 0, .int 0, .int 0, .ref (um 6)]))]) hP hD hK hE9 hS hA [1] (by decide) rfl rfl rfl) rfl rfl hl.1 rfl (lv_room (Nat.le_of_ble_eq_true rfl)) dL_law_1157 ⟨(Nat.le_of_ble_eq_true rfl), (Nat.le_of_ble_eq_true rfl)⟩) hS (fun q _ h => hF q h) hF (fun r u395 t H locs ht hvm hw hB hz1 hk1 hS => ?_)
    try dsimp only at hw hB
    obtain ⟨hP1, hD1⟩ := hB
    rw [ht] at hP1
    obtain ⟨hP, hD⟩ := post_j (ws' := [(qx, .inr (7, [.ref (ux 0), .ref (ux 27), .ref (ux 30), .ref (ux 31), .ref (ux 35), .ref (ux 36), .int 0, .int 0, .int 0, .int 0])), (qm, .inr (8, u395))]) (wr := [(qx, .inr (7, [.ref (ux 0), .ref (ux 27), .ref (ux 30), .ref (ux 31), .ref (ux 35), .ref (ux 36), .int 0, .int 0, .int 0, .int 0]))]) (w1 := [(qm, .inr (8, u395))]) hP hD hF [1] rfl [0] rfl (by decide) (by decide) hk1 hP1 hD1 [0, 1] (by decide) rfl
    have hP : va_P D vwCl [(qx, .inr (7, [.ref (ux 0), .ref (ux 27), .ref (ux 30), .ref (ux 31), .ref (ux 35), .ref (ux 36), .int 0, .int 0, .int 0, .int 0])), (qm, .inr (8, u395))] H := hP
    have hD : va_D (fun q : Nat => s.heap.size ≤ q) [(qx, .inr (7, [.ref (ux 0), .ref (ux 27), .ref (ux 30), .ref (ux 31), .ref (ux 35), .ref (ux 36), .int 0, .int 0, .int 0, .int 0])), (qm, .inr (8, u395))] := hD
    obtain ⟨c396, c397, c398, c399, c400, c401, c402, c403, c404, c405, c406, c407, c408, c409, hu410, hv411⟩ := hw
    rw [hv411]
    refine lv_icmp_eq (tgt := 1677) hx hb dL_law_1160 (by decide) (fun _ => ?_) (fun h => absurd (cost_eq 11264 488 244 (iv140 _ c409) (iv141 _ c408) (by decide) (by decide) (by decide)) h)
    exact law_end C0 (Nat.le_of_ble_eq_true rfl) (Nat.le_of_ble_eq_true rfl) hS (lv_sub hl [0, 4] rfl)
  · skip
    rw [hv131]
    refine lv_aload_n hx hb dL_law_1150 rfl (lv_at hl 2 rfl) ?_
    refine lv_aload_n hx hb dL_law_1151 rfl (lv_at hl 0 rfl) ?_
    refine lv_iload hx hb dL_law_1152 (lv_at hl 4 rfl) ?_
    refine lv_iconst (v := 1) hx hb dL_law_1154 (by decide) ?_
    refine lv_iadd hx hb dL_law_1155 ?_
    refine tpi (v := 1) (by decide) ?_
    refine va_sld hx hb hX hbl hbA hS (vpl (by decide)) dL_law_1156 ?_
    refine tpi (v := (xs 1)) rfl ?_
    have hF := va_free (wc := [(qm, .inr (8, [.int 0, .int 0, .int 2, .ref (um 0), .ref (um 1), .int 0, .int 500, .int 0, .int 0, .int 0, .ref (um 6)]))]) hD hS hA [1] rfl
    refine va_calli (va_runV (As := [.int (xs 1)]) (rest := [.int (12288 + ((1024 * (244 - (xs 1))) / 122))]) ⟨hx, hb, hml, hown, hts⟩ (k_X6_costOf_12 l D κ ε qm (um 0) (um 1) (um 6) H.size ((xs 1)) c129 c130) (cwV 1 hts gL_law_X6_costOf rfl rfl rfl (by decide +kernel) ⟨(Nat.le_of_ble_eq_true rfl), (Nat.le_of_ble_eq_true rfl)⟩) (pre2_V (q0 := 1) (ci := 8) (wc := [(qm, .inr (8, [.int 0, .int 0, .int 2, .ref (um 0), .ref (um 1), .int 0, .int 500, .int 0, .int 0, .int 0, .ref (um 6)]))]) hP hD hK hE9 hS hA [1] (by decide) rfl rfl rfl) rfl rfl hl.1 rfl (lv_room (Nat.le_of_ble_eq_true rfl)) dL_law_1157 ⟨(Nat.le_of_ble_eq_true rfl), (Nat.le_of_ble_eq_true rfl)⟩) hS (fun q _ h => hF q h) hF (fun r u412 t H locs ht hvm hw hB hz1 hk1 hS => ?_)
    try dsimp only at hw hB
    obtain ⟨hP1, hD1⟩ := hB
    rw [ht] at hP1
    obtain ⟨hP, hD⟩ := post_j (ws' := [(qx, .inr (7, [.ref (ux 0), .ref (ux 27), .ref (ux 30), .ref (ux 31), .ref (ux 35), .ref (ux 36), .int 0, .int 0, .int 0, .int 0])), (qm, .inr (8, u412))]) (wr := [(qx, .inr (7, [.ref (ux 0), .ref (ux 27), .ref (ux 30), .ref (ux 31), .ref (ux 35), .ref (ux 36), .int 0, .int 0, .int 0, .int 0]))]) (w1 := [(qm, .inr (8, u412))]) hP hD hF [1] rfl [0] rfl (by decide) (by decide) hk1 hP1 hD1 [0, 1] (by decide) rfl
    have hP : va_P D vwCl [(qx, .inr (7, [.ref (ux 0), .ref (ux 27), .ref (ux 30), .ref (ux 31), .ref (ux 35), .ref (ux 36), .int 0, .int 0, .int 0, .int 0])), (qm, .inr (8, u412))] H := hP
    have hD : va_D (fun q : Nat => s.heap.size ≤ q) [(qx, .inr (7, [.ref (ux 0), .ref (ux 27), .ref (ux 30), .ref (ux 31), .ref (ux 35), .ref (ux 36), .int 0, .int 0, .int 0, .int 0])), (qm, .inr (8, u412))] := hD
    obtain ⟨c413, c414, c415, c416, c417, c418, c419, c420, c421, c422, c423, c424, c425, c426, c427, hu428, hv429⟩ := hw
    rw [hv429]
    refine lv_icmp_eq (tgt := 1677) hx hb dL_law_1160 (by decide) (fun _ => ?_) (fun h => absurd (cost_eq 12288 244 122 (iv157 _ c427) (iv158 _ c426) (by decide) (by decide) (by decide)) h)
    exact law_end C0 (Nat.le_of_ble_eq_true rfl) (Nat.le_of_ble_eq_true rfl) hS (lv_sub hl [0, 4] rfl)
  · skip
    rw [hv148]
    refine lv_aload_n hx hb dL_law_1150 rfl (lv_at hl 2 rfl) ?_
    refine lv_aload_n hx hb dL_law_1151 rfl (lv_at hl 0 rfl) ?_
    refine lv_iload hx hb dL_law_1152 (lv_at hl 4 rfl) ?_
    refine lv_iconst (v := 1) hx hb dL_law_1154 (by decide) ?_
    refine lv_iadd hx hb dL_law_1155 ?_
    refine tpi (v := 1) (by decide) ?_
    refine va_sld hx hb hX hbl hbA hS (vpl (by decide)) dL_law_1156 ?_
    refine tpi (v := (xs 1)) rfl ?_
    have hF := va_free (wc := [(qm, .inr (8, [.int 0, .int 0, .int 2, .ref (um 0), .ref (um 1), .int 0, .int 500, .int 0, .int 0, .int 0, .ref (um 6)]))]) hD hS hA [1] rfl
    refine va_calli (va_runV (As := [.int (xs 1)]) (rest := [.int (13312 + ((1024 * (122 - (xs 1))) / 61))]) ⟨hx, hb, hml, hown, hts⟩ (k_X6_costOf_13 l D κ ε qm (um 0) (um 1) (um 6) H.size ((xs 1)) c146 c147) (cwV 1 hts gL_law_X6_costOf rfl rfl rfl (by decide +kernel) ⟨(Nat.le_of_ble_eq_true rfl), (Nat.le_of_ble_eq_true rfl)⟩) (pre2_V (q0 := 1) (ci := 8) (wc := [(qm, .inr (8, [.int 0, .int 0, .int 2, .ref (um 0), .ref (um 1), .int 0, .int 500, .int 0, .int 0, .int 0, .ref (um 6)]))]) hP hD hK hE9 hS hA [1] (by decide) rfl rfl rfl) rfl rfl hl.1 rfl (lv_room (Nat.le_of_ble_eq_true rfl)) dL_law_1157 ⟨(Nat.le_of_ble_eq_true rfl), (Nat.le_of_ble_eq_true rfl)⟩) hS (fun q _ h => hF q h) hF (fun r u430 t H locs ht hvm hw hB hz1 hk1 hS => ?_)
    try dsimp only at hw hB
    obtain ⟨hP1, hD1⟩ := hB
    rw [ht] at hP1
    obtain ⟨hP, hD⟩ := post_j (ws' := [(qx, .inr (7, [.ref (ux 0), .ref (ux 27), .ref (ux 30), .ref (ux 31), .ref (ux 35), .ref (ux 36), .int 0, .int 0, .int 0, .int 0])), (qm, .inr (8, u430))]) (wr := [(qx, .inr (7, [.ref (ux 0), .ref (ux 27), .ref (ux 30), .ref (ux 31), .ref (ux 35), .ref (ux 36), .int 0, .int 0, .int 0, .int 0]))]) (w1 := [(qm, .inr (8, u430))]) hP hD hF [1] rfl [0] rfl (by decide) (by decide) hk1 hP1 hD1 [0, 1] (by decide) rfl
    have hP : va_P D vwCl [(qx, .inr (7, [.ref (ux 0), .ref (ux 27), .ref (ux 30), .ref (ux 31), .ref (ux 35), .ref (ux 36), .int 0, .int 0, .int 0, .int 0])), (qm, .inr (8, u430))] H := hP
    have hD : va_D (fun q : Nat => s.heap.size ≤ q) [(qx, .inr (7, [.ref (ux 0), .ref (ux 27), .ref (ux 30), .ref (ux 31), .ref (ux 35), .ref (ux 36), .int 0, .int 0, .int 0, .int 0])), (qm, .inr (8, u430))] := hD
    obtain ⟨c431, c432, c433, c434, c435, c436, c437, c438, c439, c440, c441, c442, c443, c444, c445, c446, hu447, hv448⟩ := hw
    rw [hv448]
    refine lv_icmp_eq (tgt := 1677) hx hb dL_law_1160 (by decide) (fun _ => ?_) (fun h => absurd (cost_eq 13312 122 61 (iv175 _ c446) (iv176 _ c445) (by decide) (by decide) (by decide)) h)
    exact law_end C0 (Nat.le_of_ble_eq_true rfl) (Nat.le_of_ble_eq_true rfl) hS (lv_sub hl [0, 4] rfl)
  · skip
    rw [hv166]
    refine lv_aload_n hx hb dL_law_1150 rfl (lv_at hl 2 rfl) ?_
    refine lv_aload_n hx hb dL_law_1151 rfl (lv_at hl 0 rfl) ?_
    refine lv_iload hx hb dL_law_1152 (lv_at hl 4 rfl) ?_
    refine lv_iconst (v := 1) hx hb dL_law_1154 (by decide) ?_
    refine lv_iadd hx hb dL_law_1155 ?_
    refine tpi (v := 1) (by decide) ?_
    refine va_sld hx hb hX hbl hbA hS (vpl (by decide)) dL_law_1156 ?_
    refine tpi (v := (xs 1)) rfl ?_
    have hF := va_free (wc := [(qm, .inr (8, [.int 0, .int 0, .int 2, .ref (um 0), .ref (um 1), .int 0, .int 500, .int 0, .int 0, .int 0, .ref (um 6)]))]) hD hS hA [1] rfl
    refine va_calli (va_runV (As := [.int (xs 1)]) (rest := [.int (14336 + ((1024 * (61 - (xs 1))) / 31))]) ⟨hx, hb, hml, hown, hts⟩ (k_X6_costOf_14 l D κ ε qm (um 0) (um 1) (um 6) H.size ((xs 1)) c164 c165) (cwV 1 hts gL_law_X6_costOf rfl rfl rfl (by decide +kernel) ⟨(Nat.le_of_ble_eq_true rfl), (Nat.le_of_ble_eq_true rfl)⟩) (pre2_V (q0 := 1) (ci := 8) (wc := [(qm, .inr (8, [.int 0, .int 0, .int 2, .ref (um 0), .ref (um 1), .int 0, .int 500, .int 0, .int 0, .int 0, .ref (um 6)]))]) hP hD hK hE9 hS hA [1] (by decide) rfl rfl rfl) rfl rfl hl.1 rfl (lv_room (Nat.le_of_ble_eq_true rfl)) dL_law_1157 ⟨(Nat.le_of_ble_eq_true rfl), (Nat.le_of_ble_eq_true rfl)⟩) hS (fun q _ h => hF q h) hF (fun r u449 t H locs ht hvm hw hB hz1 hk1 hS => ?_)
    try dsimp only at hw hB
    obtain ⟨hP1, hD1⟩ := hB
    rw [ht] at hP1
    obtain ⟨hP, hD⟩ := post_j (ws' := [(qx, .inr (7, [.ref (ux 0), .ref (ux 27), .ref (ux 30), .ref (ux 31), .ref (ux 35), .ref (ux 36), .int 0, .int 0, .int 0, .int 0])), (qm, .inr (8, u449))]) (wr := [(qx, .inr (7, [.ref (ux 0), .ref (ux 27), .ref (ux 30), .ref (ux 31), .ref (ux 35), .ref (ux 36), .int 0, .int 0, .int 0, .int 0]))]) (w1 := [(qm, .inr (8, u449))]) hP hD hF [1] rfl [0] rfl (by decide) (by decide) hk1 hP1 hD1 [0, 1] (by decide) rfl
    have hP : va_P D vwCl [(qx, .inr (7, [.ref (ux 0), .ref (ux 27), .ref (ux 30), .ref (ux 31), .ref (ux 35), .ref (ux 36), .int 0, .int 0, .int 0, .int 0])), (qm, .inr (8, u449))] H := hP
    have hD : va_D (fun q : Nat => s.heap.size ≤ q) [(qx, .inr (7, [.ref (ux 0), .ref (ux 27), .ref (ux 30), .ref (ux 31), .ref (ux 35), .ref (ux 36), .int 0, .int 0, .int 0, .int 0])), (qm, .inr (8, u449))] := hD
    obtain ⟨c450, c451, c452, c453, c454, c455, c456, c457, c458, c459, c460, c461, c462, c463, c464, c465, c466, hu467, hv468⟩ := hw
    rw [hv468]
    refine lv_icmp_eq (tgt := 1677) hx hb dL_law_1160 (by decide) (fun _ => ?_) (fun h => absurd (cost_eq 14336 61 31 (iv194 _ c466) (iv195 _ c465) (by decide) (by decide) (by decide)) h)
    exact law_end C0 (Nat.le_of_ble_eq_true rfl) (Nat.le_of_ble_eq_true rfl) hS (lv_sub hl [0, 4] rfl)
  · skip
    rw [hv185]
    refine lv_aload_n hx hb dL_law_1150 rfl (lv_at hl 2 rfl) ?_
    refine lv_aload_n hx hb dL_law_1151 rfl (lv_at hl 0 rfl) ?_
    refine lv_iload hx hb dL_law_1152 (lv_at hl 4 rfl) ?_
    refine lv_iconst (v := 1) hx hb dL_law_1154 (by decide) ?_
    refine lv_iadd hx hb dL_law_1155 ?_
    refine tpi (v := 1) (by decide) ?_
    refine va_sld hx hb hX hbl hbA hS (vpl (by decide)) dL_law_1156 ?_
    refine tpi (v := (xs 1)) rfl ?_
    have hF := va_free (wc := [(qm, .inr (8, [.int 0, .int 0, .int 2, .ref (um 0), .ref (um 1), .int 0, .int 500, .int 0, .int 0, .int 0, .ref (um 6)]))]) hD hS hA [1] rfl
    refine va_calli (va_runV (As := [.int (xs 1)]) (rest := [.int (15360 + ((1024 * (30 - (xs 1))) / 15))]) ⟨hx, hb, hml, hown, hts⟩ (k_X6_costOf_15 l D κ ε qm (um 0) (um 1) (um 6) H.size ((xs 1)) c183 c184) (cwV 1 hts gL_law_X6_costOf rfl rfl rfl (by decide +kernel) ⟨(Nat.le_of_ble_eq_true rfl), (Nat.le_of_ble_eq_true rfl)⟩) (pre2_V (q0 := 1) (ci := 8) (wc := [(qm, .inr (8, [.int 0, .int 0, .int 2, .ref (um 0), .ref (um 1), .int 0, .int 500, .int 0, .int 0, .int 0, .ref (um 6)]))]) hP hD hK hE9 hS hA [1] (by decide) rfl rfl rfl) rfl rfl hl.1 rfl (lv_room (Nat.le_of_ble_eq_true rfl)) dL_law_1157 ⟨(Nat.le_of_ble_eq_true rfl), (Nat.le_of_ble_eq_true rfl)⟩) hS (fun q _ h => hF q h) hF (fun r u469 t H locs ht hvm hw hB hz1 hk1 hS => ?_)
    try dsimp only at hw hB
    obtain ⟨hP1, hD1⟩ := hB
    rw [ht] at hP1
    obtain ⟨hP, hD⟩ := post_j (ws' := [(qx, .inr (7, [.ref (ux 0), .ref (ux 27), .ref (ux 30), .ref (ux 31), .ref (ux 35), .ref (ux 36), .int 0, .int 0, .int 0, .int 0])), (qm, .inr (8, u469))]) (wr := [(qx, .inr (7, [.ref (ux 0), .ref (ux 27), .ref (ux 30), .ref (ux 31), .ref (ux 35), .ref (ux 36), .int 0, .int 0, .int 0, .int 0]))]) (w1 := [(qm, .inr (8, u469))]) hP hD hF [1] rfl [0] rfl (by decide) (by decide) hk1 hP1 hD1 [0, 1] (by decide) rfl
    have hP : va_P D vwCl [(qx, .inr (7, [.ref (ux 0), .ref (ux 27), .ref (ux 30), .ref (ux 31), .ref (ux 35), .ref (ux 36), .int 0, .int 0, .int 0, .int 0])), (qm, .inr (8, u469))] H := hP
    have hD : va_D (fun q : Nat => s.heap.size ≤ q) [(qx, .inr (7, [.ref (ux 0), .ref (ux 27), .ref (ux 30), .ref (ux 31), .ref (ux 35), .ref (ux 36), .int 0, .int 0, .int 0, .int 0])), (qm, .inr (8, u469))] := hD
    obtain ⟨c470, c471, c472, c473, c474, c475, c476, c477, c478, c479, c480, c481, c482, c483, c484, c485, c486, c487, hu488, hv489⟩ := hw
    rw [hv489]
    refine lv_icmp_eq (tgt := 1677) hx hb dL_law_1160 (by decide) (fun _ => ?_) (fun h => absurd (cost_eq 15360 30 15 (iv214 _ c487) (iv215 _ c486) (by decide) (by decide) (by decide)) h)
    exact law_end C0 (Nat.le_of_ble_eq_true rfl) (Nat.le_of_ble_eq_true rfl) hS (lv_sub hl [0, 4] rfl)
  · skip
    rw [hv205]
    refine lv_aload_n hx hb dL_law_1150 rfl (lv_at hl 2 rfl) ?_
    refine lv_aload_n hx hb dL_law_1151 rfl (lv_at hl 0 rfl) ?_
    refine lv_iload hx hb dL_law_1152 (lv_at hl 4 rfl) ?_
    refine lv_iconst (v := 1) hx hb dL_law_1154 (by decide) ?_
    refine lv_iadd hx hb dL_law_1155 ?_
    refine tpi (v := 1) (by decide) ?_
    refine va_sld hx hb hX hbl hbA hS (vpl (by decide)) dL_law_1156 ?_
    refine tpi (v := (xs 1)) rfl ?_
    have hF := va_free (wc := [(qm, .inr (8, [.int 0, .int 0, .int 2, .ref (um 0), .ref (um 1), .int 0, .int 500, .int 0, .int 0, .int 0, .ref (um 6)]))]) hD hS hA [1] rfl
    refine va_calli (va_runV (As := [.int (xs 1)]) (rest := [.int (16384 + ((1024 * (15 - (xs 1))) / 8))]) ⟨hx, hb, hml, hown, hts⟩ (k_X6_costOf_16 l D κ ε qm (um 0) (um 1) (um 6) H.size ((xs 1)) c203 c204) (cwV 1 hts gL_law_X6_costOf rfl rfl rfl (by decide +kernel) ⟨(Nat.le_of_ble_eq_true rfl), (Nat.le_of_ble_eq_true rfl)⟩) (pre2_V (q0 := 1) (ci := 8) (wc := [(qm, .inr (8, [.int 0, .int 0, .int 2, .ref (um 0), .ref (um 1), .int 0, .int 500, .int 0, .int 0, .int 0, .ref (um 6)]))]) hP hD hK hE9 hS hA [1] (by decide) rfl rfl rfl) rfl rfl hl.1 rfl (lv_room (Nat.le_of_ble_eq_true rfl)) dL_law_1157 ⟨(Nat.le_of_ble_eq_true rfl), (Nat.le_of_ble_eq_true rfl)⟩) hS (fun q _ h => hF q h) hF (fun r u490 t H locs ht hvm hw hB hz1 hk1 hS => ?_)
    try dsimp only at hw hB
    obtain ⟨hP1, hD1⟩ := hB
    rw [ht] at hP1
    obtain ⟨hP, hD⟩ := post_j (ws' := [(qx, .inr (7, [.ref (ux 0), .ref (ux 27), .ref (ux 30), .ref (ux 31), .ref (ux 35), .ref (ux 36), .int 0, .int 0, .int 0, .int 0])), (qm, .inr (8, u490))]) (wr := [(qx, .inr (7, [.ref (ux 0), .ref (ux 27), .ref (ux 30), .ref (ux 31), .ref (ux 35), .ref (ux 36), .int 0, .int 0, .int 0, .int 0]))]) (w1 := [(qm, .inr (8, u490))]) hP hD hF [1] rfl [0] rfl (by decide) (by decide) hk1 hP1 hD1 [0, 1] (by decide) rfl
    have hP : va_P D vwCl [(qx, .inr (7, [.ref (ux 0), .ref (ux 27), .ref (ux 30), .ref (ux 31), .ref (ux 35), .ref (ux 36), .int 0, .int 0, .int 0, .int 0])), (qm, .inr (8, u490))] H := hP
    have hD : va_D (fun q : Nat => s.heap.size ≤ q) [(qx, .inr (7, [.ref (ux 0), .ref (ux 27), .ref (ux 30), .ref (ux 31), .ref (ux 35), .ref (ux 36), .int 0, .int 0, .int 0, .int 0])), (qm, .inr (8, u490))] := hD
    obtain ⟨c491, c492, c493, c494, c495, c496, c497, c498, c499, c500, c501, c502, c503, c504, c505, c506, c507, c508, c509, hu510, hv511⟩ := hw
    rw [hv511]
    refine lv_icmp_eq (tgt := 1677) hx hb dL_law_1160 (by decide) (fun _ => ?_) (fun h => absurd (cost_eq 16384 15 8 (iv235 _ c509) (iv236 _ c508) (by decide) (by decide) (by decide)) h)
    exact law_end C0 (Nat.le_of_ble_eq_true rfl) (Nat.le_of_ble_eq_true rfl) hS (lv_sub hl [0, 4] rfl)
  · skip
    rw [hv226]
    refine lv_aload_n hx hb dL_law_1150 rfl (lv_at hl 2 rfl) ?_
    refine lv_aload_n hx hb dL_law_1151 rfl (lv_at hl 0 rfl) ?_
    refine lv_iload hx hb dL_law_1152 (lv_at hl 4 rfl) ?_
    refine lv_iconst (v := 1) hx hb dL_law_1154 (by decide) ?_
    refine lv_iadd hx hb dL_law_1155 ?_
    refine tpi (v := 1) (by decide) ?_
    refine va_sld hx hb hX hbl hbA hS (vpl (by decide)) dL_law_1156 ?_
    refine tpi (v := (xs 1)) rfl ?_
    have hF := va_free (wc := [(qm, .inr (8, [.int 0, .int 0, .int 2, .ref (um 0), .ref (um 1), .int 0, .int 500, .int 0, .int 0, .int 0, .ref (um 6)]))]) hD hS hA [1] rfl
    refine va_calli (va_runV (As := [.int (xs 1)]) (rest := [.int (17408 + ((1024 * (7 - (xs 1))) / 4))]) ⟨hx, hb, hml, hown, hts⟩ (k_X6_costOf_17 l D κ ε qm (um 0) (um 1) (um 6) H.size ((xs 1)) c224 c225) (cwV 1 hts gL_law_X6_costOf rfl rfl rfl (by decide +kernel) ⟨(Nat.le_of_ble_eq_true rfl), (Nat.le_of_ble_eq_true rfl)⟩) (pre2_V (q0 := 1) (ci := 8) (wc := [(qm, .inr (8, [.int 0, .int 0, .int 2, .ref (um 0), .ref (um 1), .int 0, .int 500, .int 0, .int 0, .int 0, .ref (um 6)]))]) hP hD hK hE9 hS hA [1] (by decide) rfl rfl rfl) rfl rfl hl.1 rfl (lv_room (Nat.le_of_ble_eq_true rfl)) dL_law_1157 ⟨(Nat.le_of_ble_eq_true rfl), (Nat.le_of_ble_eq_true rfl)⟩) hS (fun q _ h => hF q h) hF (fun r u512 t H locs ht hvm hw hB hz1 hk1 hS => ?_)
    try dsimp only at hw hB
    obtain ⟨hP1, hD1⟩ := hB
    rw [ht] at hP1
    obtain ⟨hP, hD⟩ := post_j (ws' := [(qx, .inr (7, [.ref (ux 0), .ref (ux 27), .ref (ux 30), .ref (ux 31), .ref (ux 35), .ref (ux 36), .int 0, .int 0, .int 0, .int 0])), (qm, .inr (8, u512))]) (wr := [(qx, .inr (7, [.ref (ux 0), .ref (ux 27), .ref (ux 30), .ref (ux 31), .ref (ux 35), .ref (ux 36), .int 0, .int 0, .int 0, .int 0]))]) (w1 := [(qm, .inr (8, u512))]) hP hD hF [1] rfl [0] rfl (by decide) (by decide) hk1 hP1 hD1 [0, 1] (by decide) rfl
    have hP : va_P D vwCl [(qx, .inr (7, [.ref (ux 0), .ref (ux 27), .ref (ux 30), .ref (ux 31), .ref (ux 35), .ref (ux 36), .int 0, .int 0, .int 0, .int 0])), (qm, .inr (8, u512))] H := hP
    have hD : va_D (fun q : Nat => s.heap.size ≤ q) [(qx, .inr (7, [.ref (ux 0), .ref (ux 27), .ref (ux 30), .ref (ux 31), .ref (ux 35), .ref (ux 36), .int 0, .int 0, .int 0, .int 0])), (qm, .inr (8, u512))] := hD
    obtain ⟨c513, c514, c515, c516, c517, c518, c519, c520, c521, c522, c523, c524, c525, c526, c527, c528, c529, c530, c531, c532, hu533, hv534⟩ := hw
    rw [hv534]
    refine lv_icmp_eq (tgt := 1677) hx hb dL_law_1160 (by decide) (fun _ => ?_) (fun h => absurd (cost_eq 17408 7 4 (iv257 _ c532) (iv258 _ c531) (by decide) (by decide) (by decide)) h)
    exact law_end C0 (Nat.le_of_ble_eq_true rfl) (Nat.le_of_ble_eq_true rfl) hS (lv_sub hl [0, 4] rfl)
  · skip
    rw [hv248]
    refine lv_aload_n hx hb dL_law_1150 rfl (lv_at hl 2 rfl) ?_
    refine lv_aload_n hx hb dL_law_1151 rfl (lv_at hl 0 rfl) ?_
    refine lv_iload hx hb dL_law_1152 (lv_at hl 4 rfl) ?_
    refine lv_iconst (v := 1) hx hb dL_law_1154 (by decide) ?_
    refine lv_iadd hx hb dL_law_1155 ?_
    refine tpi (v := 1) (by decide) ?_
    refine va_sld hx hb hX hbl hbA hS (vpl (by decide)) dL_law_1156 ?_
    refine tpi (v := (xs 1)) rfl ?_
    have hF := va_free (wc := [(qm, .inr (8, [.int 0, .int 0, .int 2, .ref (um 0), .ref (um 1), .int 0, .int 500, .int 0, .int 0, .int 0, .ref (um 6)]))]) hD hS hA [1] rfl
    refine va_calli (va_runV (As := [.int (xs 1)]) (rest := [.int (18432 + ((1024 * (3 - (xs 1))) / 2))]) ⟨hx, hb, hml, hown, hts⟩ (k_X6_costOf_18 l D κ ε qm (um 0) (um 1) (um 6) H.size ((xs 1)) c246 c247) (cwV 1 hts gL_law_X6_costOf rfl rfl rfl (by decide +kernel) ⟨(Nat.le_of_ble_eq_true rfl), (Nat.le_of_ble_eq_true rfl)⟩) (pre2_V (q0 := 1) (ci := 8) (wc := [(qm, .inr (8, [.int 0, .int 0, .int 2, .ref (um 0), .ref (um 1), .int 0, .int 500, .int 0, .int 0, .int 0, .ref (um 6)]))]) hP hD hK hE9 hS hA [1] (by decide) rfl rfl rfl) rfl rfl hl.1 rfl (lv_room (Nat.le_of_ble_eq_true rfl)) dL_law_1157 ⟨(Nat.le_of_ble_eq_true rfl), (Nat.le_of_ble_eq_true rfl)⟩) hS (fun q _ h => hF q h) hF (fun r u535 t H locs ht hvm hw hB hz1 hk1 hS => ?_)
    try dsimp only at hw hB
    obtain ⟨hP1, hD1⟩ := hB
    rw [ht] at hP1
    obtain ⟨hP, hD⟩ := post_j (ws' := [(qx, .inr (7, [.ref (ux 0), .ref (ux 27), .ref (ux 30), .ref (ux 31), .ref (ux 35), .ref (ux 36), .int 0, .int 0, .int 0, .int 0])), (qm, .inr (8, u535))]) (wr := [(qx, .inr (7, [.ref (ux 0), .ref (ux 27), .ref (ux 30), .ref (ux 31), .ref (ux 35), .ref (ux 36), .int 0, .int 0, .int 0, .int 0]))]) (w1 := [(qm, .inr (8, u535))]) hP hD hF [1] rfl [0] rfl (by decide) (by decide) hk1 hP1 hD1 [0, 1] (by decide) rfl
    have hP : va_P D vwCl [(qx, .inr (7, [.ref (ux 0), .ref (ux 27), .ref (ux 30), .ref (ux 31), .ref (ux 35), .ref (ux 36), .int 0, .int 0, .int 0, .int 0])), (qm, .inr (8, u535))] H := hP
    have hD : va_D (fun q : Nat => s.heap.size ≤ q) [(qx, .inr (7, [.ref (ux 0), .ref (ux 27), .ref (ux 30), .ref (ux 31), .ref (ux 35), .ref (ux 36), .int 0, .int 0, .int 0, .int 0])), (qm, .inr (8, u535))] := hD
    obtain ⟨c536, c537, c538, c539, c540, c541, c542, c543, c544, c545, c546, c547, c548, c549, c550, c551, c552, c553, c554, c555, c556, hu557, hv558⟩ := hw
    rw [hv558]
    refine lv_icmp_eq (tgt := 1677) hx hb dL_law_1160 (by decide) (fun _ => ?_) (fun h => absurd (cost_eq 18432 3 2 (iv280 _ c556) (iv281 _ c555) (by decide) (by decide) (by decide)) h)
    exact law_end C0 (Nat.le_of_ble_eq_true rfl) (Nat.le_of_ble_eq_true rfl) hS (lv_sub hl [0, 4] rfl)
  · skip
    rw [hv270]
    refine lv_aload_n hx hb dL_law_1150 rfl (lv_at hl 2 rfl) ?_
    refine lv_aload_n hx hb dL_law_1151 rfl (lv_at hl 0 rfl) ?_
    refine lv_iload hx hb dL_law_1152 (lv_at hl 4 rfl) ?_
    refine lv_iconst (v := 1) hx hb dL_law_1154 (by decide) ?_
    refine lv_iadd hx hb dL_law_1155 ?_
    refine tpi (v := 1) (by decide) ?_
    refine va_sld hx hb hX hbl hbA hS (vpl (by decide)) dL_law_1156 ?_
    refine tpi (v := (xs 1)) rfl ?_
    have hF := va_free (wc := [(qm, .inr (8, [.int 0, .int 0, .int 2, .ref (um 0), .ref (um 1), .int 0, .int 500, .int 0, .int 0, .int 0, .ref (um 6)]))]) hD hS hA [1] rfl
    refine va_calli (va_runV (As := [.int (xs 1)]) (rest := [.int (19456 + ((1024 * (1 - (xs 1))) / 1))]) ⟨hx, hb, hml, hown, hts⟩ (k_X6_costOf_19 l D κ ε qm (um 0) (um 1) (um 6) H.size ((xs 1)) c249 c269) (cwV 1 hts gL_law_X6_costOf rfl rfl rfl (by decide +kernel) ⟨(Nat.le_of_ble_eq_true rfl), (Nat.le_of_ble_eq_true rfl)⟩) (pre2_V (q0 := 1) (ci := 8) (wc := [(qm, .inr (8, [.int 0, .int 0, .int 2, .ref (um 0), .ref (um 1), .int 0, .int 500, .int 0, .int 0, .int 0, .ref (um 6)]))]) hP hD hK hE9 hS hA [1] (by decide) rfl rfl rfl) rfl rfl hl.1 rfl (lv_room (Nat.le_of_ble_eq_true rfl)) dL_law_1157 ⟨(Nat.le_of_ble_eq_true rfl), (Nat.le_of_ble_eq_true rfl)⟩) hS (fun q _ h => hF q h) hF (fun r u559 t H locs ht hvm hw hB hz1 hk1 hS => ?_)
    try dsimp only at hw hB
    obtain ⟨hP1, hD1⟩ := hB
    rw [ht] at hP1
    obtain ⟨hP, hD⟩ := post_j (ws' := [(qx, .inr (7, [.ref (ux 0), .ref (ux 27), .ref (ux 30), .ref (ux 31), .ref (ux 35), .ref (ux 36), .int 0, .int 0, .int 0, .int 0])), (qm, .inr (8, u559))]) (wr := [(qx, .inr (7, [.ref (ux 0), .ref (ux 27), .ref (ux 30), .ref (ux 31), .ref (ux 35), .ref (ux 36), .int 0, .int 0, .int 0, .int 0]))]) (w1 := [(qm, .inr (8, u559))]) hP hD hF [1] rfl [0] rfl (by decide) (by decide) hk1 hP1 hD1 [0, 1] (by decide) rfl
    have hP : va_P D vwCl [(qx, .inr (7, [.ref (ux 0), .ref (ux 27), .ref (ux 30), .ref (ux 31), .ref (ux 35), .ref (ux 36), .int 0, .int 0, .int 0, .int 0])), (qm, .inr (8, u559))] H := hP
    have hD : va_D (fun q : Nat => s.heap.size ≤ q) [(qx, .inr (7, [.ref (ux 0), .ref (ux 27), .ref (ux 30), .ref (ux 31), .ref (ux 35), .ref (ux 36), .int 0, .int 0, .int 0, .int 0])), (qm, .inr (8, u559))] := hD
    obtain ⟨c560, c561, c562, c563, c564, c565, c566, c567, c568, c569, c570, c571, c572, c573, c574, c575, c576, c577, c578, c579, c580, hu581, hv582⟩ := hw
    rw [hv582]
    refine lv_icmp_eq (tgt := 1677) hx hb dL_law_1160 (by decide) (fun _ => ?_) (fun h => absurd (cost_eq 19456 1 1 (iv303 _ c560) (iv304 _ c580) (by decide) (by decide) (by decide)) h)
    exact law_end C0 (Nat.le_of_ble_eq_true rfl) (Nat.le_of_ble_eq_true rfl) hS (lv_sub hl [0, 4] rfl)
  · skip
    refine lv_aload_n hx hb dL_law_1150 rfl (lv_at hl 2 rfl) ?_
    refine lv_aload_n hx hb dL_law_1151 rfl (lv_at hl 0 rfl) ?_
    refine lv_iload hx hb dL_law_1152 (lv_at hl 4 rfl) ?_
    refine lv_iconst (v := 1) hx hb dL_law_1154 (by decide) ?_
    refine lv_iadd hx hb dL_law_1155 ?_
    refine tpi (v := 1) (by decide) ?_
    refine va_sld hx hb hX hbl hbA hS (vpl (by decide)) dL_law_1156 ?_
    refine tpi (v := (xs 1)) rfl ?_
    have hF := va_free (wc := [(qm, .inr (8, [.int 0, .int 0, .int 2, .ref (um 0), .ref (um 1), .int 0, .int 500, .int 0, .int 0, .int 0, .ref (um 6)]))]) hD hS hA [1] rfl
    refine va_calli (va_runV (As := [.int (xs 1)]) (rest := [.int 0]) ⟨hx, hb, hml, hown, hts⟩ (k_X6_costOf_20 l D κ ε qm (um 0) (um 1) (um 6) H.size ((xs 1)) c272) (cwV 1 hts gL_law_X6_costOf rfl rfl rfl (by decide +kernel) ⟨(Nat.le_of_ble_eq_true rfl), (Nat.le_of_ble_eq_true rfl)⟩) (pre2_V (q0 := 1) (ci := 8) (wc := [(qm, .inr (8, [.int 0, .int 0, .int 2, .ref (um 0), .ref (um 1), .int 0, .int 500, .int 0, .int 0, .int 0, .ref (um 6)]))]) hP hD hK hE9 hS hA [1] (by decide) rfl rfl rfl) rfl rfl hl.1 rfl (lv_room (Nat.le_of_ble_eq_true rfl)) dL_law_1157 ⟨(Nat.le_of_ble_eq_true rfl), (Nat.le_of_ble_eq_true rfl)⟩) hS (fun q _ h => hF q h) hF (fun r u583 t H locs ht hvm hw hB hz1 hk1 hS => ?_)
    try dsimp only at hw hB
    obtain ⟨hP1, hD1⟩ := hB
    rw [ht] at hP1
    obtain ⟨hP, hD⟩ := post_j (ws' := [(qx, .inr (7, [.ref (ux 0), .ref (ux 27), .ref (ux 30), .ref (ux 31), .ref (ux 35), .ref (ux 36), .int 0, .int 0, .int 0, .int 0])), (qm, .inr (8, u583))]) (wr := [(qx, .inr (7, [.ref (ux 0), .ref (ux 27), .ref (ux 30), .ref (ux 31), .ref (ux 35), .ref (ux 36), .int 0, .int 0, .int 0, .int 0]))]) (w1 := [(qm, .inr (8, u583))]) hP hD hF [1] rfl [0] rfl (by decide) (by decide) hk1 hP1 hD1 [0, 1] (by decide) rfl
    have hP : va_P D vwCl [(qx, .inr (7, [.ref (ux 0), .ref (ux 27), .ref (ux 30), .ref (ux 31), .ref (ux 35), .ref (ux 36), .int 0, .int 0, .int 0, .int 0])), (qm, .inr (8, u583))] H := hP
    have hD : va_D (fun q : Nat => s.heap.size ≤ q) [(qx, .inr (7, [.ref (ux 0), .ref (ux 27), .ref (ux 30), .ref (ux 31), .ref (ux 35), .ref (ux 36), .int 0, .int 0, .int 0, .int 0])), (qm, .inr (8, u583))] := hD
    obtain ⟨c584, c585, hu586, rfl⟩ := hw
    refine lv_icmp_eq (tgt := 1677) hx hb dL_law_1160 (by decide) (fun _ => ?_) (fun h => absurd (by decide) h)
    exact law_end C0 (Nat.le_of_ble_eq_true rfl) (Nat.le_of_ble_eq_true rfl) hS (lv_sub hl [0, 4] rfl)
  · skip
    refine lv_aload_n hx hb dL_law_1150 rfl (lv_at hl 2 rfl) ?_
    refine lv_aload_n hx hb dL_law_1151 rfl (lv_at hl 0 rfl) ?_
    refine lv_iload hx hb dL_law_1152 (lv_at hl 4 rfl) ?_
    refine lv_iconst (v := 1) hx hb dL_law_1154 (by decide) ?_
    refine lv_iadd hx hb dL_law_1155 ?_
    refine tpi (v := 1) (by decide) ?_
    refine va_sld hx hb hX hbl hbA hS (vpl (by decide)) dL_law_1156 ?_
    refine tpi (v := (xs 1)) rfl ?_
    have hF := va_free (wc := [(qm, .inr (8, [.int 0, .int 0, .int 2, .ref (um 0), .ref (um 1), .int 0, .int 500, .int 0, .int 0, .int 0, .ref (um 6)]))]) hD hS hA [1] rfl
    refine va_calli (va_runV (As := [.int (xs 1)]) (rest := [.int 32768]) ⟨hx, hb, hml, hown, hts⟩ (k_X6_costOf_21 l D κ ε qm (um 0) (um 1) (um 6) H.size ((xs 1)) c273) (cwV 1 hts gL_law_X6_costOf rfl rfl rfl (by decide +kernel) ⟨(Nat.le_of_ble_eq_true rfl), (Nat.le_of_ble_eq_true rfl)⟩) (pre2_V (q0 := 1) (ci := 8) (wc := [(qm, .inr (8, [.int 0, .int 0, .int 2, .ref (um 0), .ref (um 1), .int 0, .int 500, .int 0, .int 0, .int 0, .ref (um 6)]))]) hP hD hK hE9 hS hA [1] (by decide) rfl rfl rfl) rfl rfl hl.1 rfl (lv_room (Nat.le_of_ble_eq_true rfl)) dL_law_1157 ⟨(Nat.le_of_ble_eq_true rfl), (Nat.le_of_ble_eq_true rfl)⟩) hS (fun q _ h => hF q h) hF (fun r u587 t H locs ht hvm hw hB hz1 hk1 hS => ?_)
    try dsimp only at hw hB
    obtain ⟨hP1, hD1⟩ := hB
    rw [ht] at hP1
    obtain ⟨hP, hD⟩ := post_j (ws' := [(qx, .inr (7, [.ref (ux 0), .ref (ux 27), .ref (ux 30), .ref (ux 31), .ref (ux 35), .ref (ux 36), .int 0, .int 0, .int 0, .int 0])), (qm, .inr (8, u587))]) (wr := [(qx, .inr (7, [.ref (ux 0), .ref (ux 27), .ref (ux 30), .ref (ux 31), .ref (ux 35), .ref (ux 36), .int 0, .int 0, .int 0, .int 0]))]) (w1 := [(qm, .inr (8, u587))]) hP hD hF [1] rfl [0] rfl (by decide) (by decide) hk1 hP1 hD1 [0, 1] (by decide) rfl
    have hP : va_P D vwCl [(qx, .inr (7, [.ref (ux 0), .ref (ux 27), .ref (ux 30), .ref (ux 31), .ref (ux 35), .ref (ux 36), .int 0, .int 0, .int 0, .int 0])), (qm, .inr (8, u587))] H := hP
    have hD : va_D (fun q : Nat => s.heap.size ≤ q) [(qx, .inr (7, [.ref (ux 0), .ref (ux 27), .ref (ux 30), .ref (ux 31), .ref (ux 35), .ref (ux 36), .int 0, .int 0, .int 0, .int 0])), (qm, .inr (8, u587))] := hD
    obtain ⟨c588, hu589, rfl⟩ := hw
    refine lv_icmp_eq (tgt := 1677) hx hb dL_law_1160 (by decide) (fun _ => ?_) (fun h => absurd (by decide) h)
    exact law_end C0 (Nat.le_of_ble_eq_true rfl) (Nat.le_of_ble_eq_true rfl) hS (lv_sub hl [0, 4] rfl)
