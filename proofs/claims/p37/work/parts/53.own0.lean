/-! Own, the law's helpers: what they need -/
theorem iI_of (v : Int32) : iI v.toInt = v := by unfold iI; exact Int32.ofInt_toInt v
theorem iI_rg (v : Int32) : ∃ z : Int, v = iI z ∧ -2147483648 ≤ z ∧ z < 2147483648 := ⟨v.toInt, (iI_of v).symm, Int32.le_toInt v, Int32.toInt_lt v⟩
theorem iI_ex (v : Int32) : ∃ z : Int, -2147483648 ≤ z ∧ z < 2147483648 ∧ some (Value.int v) = some (Value.int (iI z)) := by
  obtain ⟨z, h, h1, h2⟩ := iI_rg v
  exact ⟨z, h1, h2, by rw [h]⟩
theorem and_pos (v : Int32) : ∃ z : Int, v &&& iI 2147483647 = iI z ∧ 0 ≤ z ∧ z < 2147483648 := by
  refine ⟨(v &&& iI 2147483647).toInt, (iI_of _).symm, ?_, Int32.toInt_lt _⟩
  have h : (v &&& iI 2147483647).toBitVec.msb = false := by
    rw [Int32.toBitVec_and, BitVec.msb_and]
    have h2 : (iI 2147483647).toBitVec.msb = false := by decide
    rw [h2, Bool.and_false]
  show 0 ≤ (v &&& iI 2147483647).toBitVec.toInt
  rw [BitVec.toInt_eq_toNat_of_msb h]
  omega
theorem gx {ws : va_W} {c : Nat × va_E} : (ws ++ [c])[ws.length]? = some c := List.getElem?_concat_length
theorem sx {ws : va_W} {c d : Nat × va_E} : (ws ++ [c]).set ws.length d = ws ++ [d] := by
  rw [List.set_append_right _ _ (Nat.le_refl _), Nat.sub_self]; rfl
theorem gl {ws w2 : va_W} {i : Nat} {x : Nat × va_E} (h : ws[i]? = some x) : (ws ++ w2)[i]? = some x := by
  rw [List.getElem?_append_left (List.getElem?_eq_some_iff.mp h).1]; exact h
theorem gm {A ws w2 : va_W} {i : Nat} {x : Nat × va_E} (h : ws[i]? = some x) : (A ++ (ws ++ w2))[A.length + i]? = some x := by
  rw [List.getElem?_append_right (Nat.le_add_right _ _), Nat.add_sub_cancel_left]; exact gl h
theorem pA (A B C : va_W) : (A ++ (B ++ C)).Perm ((A ++ B) ++ C) := by rw [List.append_assoc]
theorem pB (A B C : va_W) : (A ++ (B ++ C)).Perm ((A ++ C) ++ B) := by rw [List.append_assoc]; exact List.perm_append_comm.append_left A
theorem pC (A B C : va_W) : (A ++ (B ++ C)).Perm (B ++ (A ++ C)) := by
  rw [← List.append_assoc, ← List.append_assoc]; exact List.perm_append_comm.append_right C
/-- the law's own model: its object b, n rows, their times -/
def OwnOk (κ : Nat → Nat) (b V N B : Nat) (W : va_W) : Prop :=
  ∃ (r t n : Nat) (f : Nat → Option Nat) (g : Nat → Int32), n ≤ B ∧ (b, (.inr (6, [.int (iI (V : Int)), .int (iI (N : Int)), .ref r, .ref t]) : va_E)) ∈ W ∧ (r, (.inl (κ 3, n, .inr (.inr (.inr (.inr f)))) : va_E)) ∈ W ∧ (t, (.inl (κ 0, n, .inl g) : va_E)) ∈ W ∧ ∀ j, j < n → ∃ (y m : Nat) (h : Nat → Int32), m < 1000 ∧ f j = some y ∧ (y, (.inl (κ 0, m, .inl h) : va_E)) ∈ W
theorem OwnOk.mono {κ : Nat → Nat} {b V N B : Nat} {W W' : va_W} (h : OwnOk κ b V N B W) (hs : ∀ q ∈ W, q ∈ W') : OwnOk κ b V N B W' := by
  obtain ⟨r, t, n, f, g, h0, h1, h2, h3, h4⟩ := h
  exact ⟨r, t, n, f, g, h0, hs _ h1, hs _ h2, hs _ h3, fun j hj => by obtain ⟨y, m, k, e0, e1, e2⟩ := h4 j hj; exact ⟨y, m, k, e0, e1, hs _ e2⟩⟩
theorem OwnOk.more {κ : Nat → Nat} {b V N B B' : Nat} {W : va_W} (h : OwnOk κ b V N B W) (hB : B ≤ B') : OwnOk κ b V N B' W := by
  obtain ⟨r, t, n, f, g, h0, h1⟩ := h
  exact ⟨r, t, n, f, g, Nat.le_trans h0 hB, h1⟩
section ROWS3
variable {l : Launch} {D : va_G} {κ : Nat → Nat} {ε : EE} {own : String} {cc : ByteArray} {mL : Nat} {ret : Option FieldType} {R : Room} {post : Option Value → DS → Prop} {Γ : DS → Nat → Array Slot → List Value → Prop} {ws : va_W} {c9 s9 : Nat} {pc : Nat} {L : List (Nat × Value)} {st : List Value}
/-- more cells and slots are counted -/
theorem w_cnt (h : Cx Wd l D κ ε own cc mL ret R post Γ) {c8 s8 : Nat} (hc : c9 ≤ c8) (hs : s9 ≤ s8) (k : WW Γ mL (ws, c8, s8) pc L st) : WW Γ mL (ws, c9, s9) pc L st := by
  obtain ⟨p, e, s, m, args, below, meth, c, A, Q, rfl, hx, hb, hml, hown, hts, hK, hE, hA, hfin⟩ := h
  intro ls hl H locs hP hD hS
  exact W.widen hc hs (k ls hl H locs hP hD hS)
theorem w_inlen (h : Cx Wd l D κ ε own cc mL ret R post Γ) (hL : ε.2.2.1 ≤ 260) (d : decode cc pc = .ok (.arraylength, 1)) (k : WW Γ mL (ws, c9, s9) (pc + 1) L (.int (iI (ε.2.2.1 : Int)) :: st)) : WW Γ mL (ws, c9, s9) pc L (.ref ε.2.1 :: st) := by
  obtain ⟨p, e, s, m, args, below, meth, c, A, Q, rfl, hx, hb, hml, hown, hts, hK, hE, hA, hfin⟩ := h
  intro ls hl H locs hP hD hS
  exact va_tlen hx hb hE.1.2 hS (v := iI (ε.2.2.1 : Int)) (by rw [← Int32.toInt_inj, Int32.toInt_ofNat_of_lt (by omega), iI_toInt (by omega)]) d (k ls hl H locs hP hD hS)
theorem w_inld (h : Cx Wd l D κ ε own cc mL ret R post Γ) (hL : ε.2.2.1 ≤ 260) {i : Int} (hi : 0 ≤ i ∧ i < ε.2.2.1) (d : decode cc pc = .ok (.iaload, 1)) (k : WW Γ mL (ws, c9, s9) (pc + 1) L (.int (ε.2.2.2 i.toNat) :: st)) : WW Γ mL (ws, c9, s9) pc L (.int (iI i) :: .ref ε.2.1 :: st) := by
  obtain ⟨p, e, s, m, args, below, meth, c, A, Q, rfl, hx, hb, hml, hown, hts, hK, hE, hA, hfin⟩ := h
  intro ls hl H locs hP hD hS
  refine va_ti hx hb hE.1.2 hS (iI_in hi (by omega)) (v := .int (ε.2.2.2 i.toNat)) ?_ d (k ls hl H locs hP hD hS)
  show Value.int (ε.2.2.2 (iI i).toNatClampNeg) = _
  rw [iI_clamp hi.1 (by omega)]
theorem w_copyr (h : Cx Wd l D κ ε own cc mL ret R post Γ) {index a0 a1 : Nat} (hlink : Cond.methodLink own index arraycopyName ∈ Wall) (hnat : Cond.native arraycopyName ∈ Wall) (hstat : Cond.static arraycopyName ∈ Wall) (hini : Cond.initialized "java/lang/System" ∈ Wall) (q0 q1 : Nat) {n0 n1 n9 : Nat} {f g : Nat → Option Nat} (he0 : ws[q0]? = some (a0, .inl (κ 3, n0, .inr (.inr (.inr (.inr f)))))) (he1 : ws[q1]? = some (a1, .inl (κ 3, n1, .inr (.inr (.inr (.inr g)))))) (h4 : n9 ≤ n0) (h5 : n9 ≤ n1) (hn9 : n9 < 1000000) (hel : ∀ i, i < n9 → ∀ y, f i = some y → ∃ (k m : Nat) (h : Nat → Int32), ws[k]? = some (y, .inl (κ 0, m, .inl h))) (hfr : 1 ≤ R.frames) (hlo : (st.map fun v => v.category).sum + (nativeFrameWords "java/lang/System" "arraycopy" 5 + 11) ≤ R.locals) (d : decode cc pc = .ok (.invokestatic index, 3)) (k : WW Γ mL (ws.set q1 (a1, .inl (κ 3, n1, .inr (.inr (.inr (.inr (va_cpy f g 0 0 n9)))))), c9, s9) (pc + 3) L st) : WW Γ mL (ws, c9, s9) pc L (.int (iI (n9 : Int)) :: .int (iI 0) :: .ref a1 :: .int (iI 0) :: .ref a0 :: st) := by
  obtain ⟨p, e, s, m, args, below, meth, c, A, Q, rfl, hx, hb, hml, hown, hts, hK, hE, hA, hfin⟩ := h
  intro ls hl H locs hP hD hS
  obtain ⟨kR, r1, r2⟩ := w_rowOk hK hE.2.2.2.2.2.2.2.2.2
  have hci : s.vm.findClass ("[" ++ FieldType.int.toString) = some (κ 0) := (hK.2 0 _ rfl).2
  obtain ⟨kC, hkC, -⟩ := Vm.findClass_spec hci
  have en : (iI (n9 : Int)).toNatClampNeg = n9 := by rw [iI_clamp (by omega) (by omega)]; rfl
  have ez : (iI 0).toNatClampNeg = 0 := by rw [iI_clamp (by omega) (by omega)]; rfl
  have tn : (iI (n9 : Int)).toInt = (n9 : Int) := iI_toInt (by omega)
  have tz : (iI 0).toInt = 0 := iI_toInt (by omega)
  have hc0 : H[a0]? = some (vp_cell (κ 3) (n0, .inr (.inr (.inr (.inr f))))) := hP q0 _ he0
  have hc1 : H[a1]? = some (vp_cell (κ 3) (n1, .inr (.inr (.inr (.inr g))))) := hP q1 _ he1
  obtain ⟨-, k0, hk0, cm0, hkk0⟩ := (hK.2 3 _ rfl).1 n0 (fun j => va_rf (f j))
  obtain ⟨-, k1, hk1, cm1, hkk1⟩ := (hK.2 3 _ rfl).1 n1 (fun j => va_rf (g j))
  have ng : ¬ iI (n9 : Int) < 0 := by rw [show (0 : Int32) = iI 0 from rfl, iI_lt (by omega) (by omega)]; omega
  have nz : ¬ iI 0 < 0 := by rw [show (0 : Int32) = iI 0 from rfl, iI_lt (by omega) (by omega)]; omega
  intro T hT X
  obtain ⟨vm', X', step⟩ := X.arraycopy hx hown (hts _ hlink) (hts _ hnat) (hts _ hstat) (hts _ hini) (src := a0) (dst := a1) (cs := vp_cell (κ 3) (n0, .inr (.inr (.inr (.inr f))))) (cd := vp_cell (κ 3) (n1, .inr (.inr (.inr (.inr g))))) (srcPos := iI 0) (destPos := iI 0) (n := iI (n9 : Int)) (by rw [hT]; exact hc0) (by rw [hT]; exact hc1)
    (fun _ h => by cases h) (fun _ h => by cases h) (fun h => by cases h) (fun h => by cases h) hk0 hk1 hkk0 hkk1 rfl nz nz ng
    (by rw [tz, tn]; show ¬ _ > ((arrV (κ 3) n0 (fun j => va_rf (f j))).slots.size : Int); rw [arrV_size]; omega)
    (by rw [tz, tn]; show ¬ _ > ((arrV (κ 3) n1 (fun j => va_rf (g j))).slots.size : Int); rw [arrV_size]; omega)
    (fun vm₁ hal i hi => by
      rw [en] at hi
      have e : (vp_cell (κ 3) (n0, .inr (.inr (.inr (.inr f))))).slots.getD ((iI 0).toNatClampNeg + i) .null = va_rf (f i) := by
        rw [ez, Nat.zero_add]
        show (arrV (κ 3) n0 (fun j => va_rf (f j))).slots.getD _ _ = _
        rw [Array.getD_eq_getD_getElem?, arrV_read _ _ (by omega)]
        rfl
      rw [e]
      cases hy : f i with
      | none => exact ⟨rfl, trivial⟩
      | some y =>
        obtain ⟨k9, m9, h9, g1⟩ := hel i hi y hy
        cases hk1.symm.trans r1
        cases hkk1.symm.trans r2
        obtain ⟨kC', hkC', -⟩ := hal.2.2 _ _ hkC
        refine ⟨rfl, _, (show T.heap[y]? = some _ by rw [hT]; exact hP k9 _ g1), (fun q h => by cases h), ⟨kC', hkC'⟩, ?_, ?_⟩
        · exact ⟨kC', hkC'⟩
        · show vm₁.assignable _ _ = true
          rw [hal.assignable]
          exact va_asg _ _)
    (g := F0 m pc ls (.int (iI (n9 : Int)) :: .int (iI 0) :: .ref a1 :: .int (iI 0) :: .ref a0 :: st)) rfl (by rw [hml]; exact hl.1) (rest := st) rfl (by rw [hb]; exact d) hfr (by show 2 * 0 + _ + _ ≤ _; omega)
  have e1 : copied (vp_cell (κ 3) (n0, .inr (.inr (.inr (.inr f))))) (vp_cell (κ 3) (n1, .inr (.inr (.inr (.inr g))))) (iI 0) (iI 0) (iI (n9 : Int)) = vp_cell (κ 3) (n1, .inr (.inr (.inr (.inr (va_cpy f g 0 0 n9))))) := by
    rw [vp_cell_q, vp_cell_q, vp_cell_q]
    refine Eq.trans (va_copied (fun z => va_rf z) (κ 3) (κ 3) (n0 := n0) (n1 := n1) (sp := (iI 0).toNatClampNeg) (dp := (iI 0).toNatClampNeg) (n := (iI (n9 : Int)).toNatClampNeg) f g (by rw [ez, en]; omega)) ?_
    rw [ez, en]
  rw [e1] at X' step
  have hl9 : a1 < H.size := (Array.getElem?_eq_some_iff.mp hc1).1
  generalize hnc : vp_cell (κ 3) (n1, .inr (.inr (.inr (.inr (va_cpy f g 0 0 n9))))) = nc at X' step
  have hheap : ((T.setVm vm').setCell a1 nc).heap = H.setIfInBounds a1 nc := by rw [← hT]; rfl
  have oq : ∀ q : Nat, q ≠ a1 → (H.setIfInBounds a1 nc)[q]? = H[q]? := fun q hq => by simp [Array.getElem?_setIfInBounds, Ne.symm hq]
  obtain ⟨t, b1, b2⟩ := k ls hl _ _ (hP.set hD he1 (show (H.setIfInBounds a1 nc)[a1]? = some _ by simp [Array.getElem?_setIfInBounds, hl9]; exact hnc.symm) oq) (hD.set he1) ⟨by simp; exact hS.1, fun q g1 g2 => by
      rw [oq q (fun e => g2 (by rw [e]; exact hD.2 q1 _ he1))]
      exact hS.2.1 q g1 g2, fun q hq => by
      rcases List.mem_append.mp hq with h | h
      · exact hS.2.2 q h
      · obtain ⟨z, -, hz⟩ := List.mem_map.mp h
        rw [← hz]
        exact hD.2 q1 _ he1⟩ _ hheap X'
  exact ⟨t, step t b1, b2⟩
end ROWS3
